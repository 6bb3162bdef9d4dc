theorem hv64 {G : AG} {M : Nat → Nat → Int32} {w : Int64} {po ts tk le nu ec ep : Int32} {i : Nat} {x : Int32} : hset (wld (gW G w) (rvM M po ts tk le nu ec ep)) 64 (.inl (0, 572, .inl (upd (M 64) i x))) = wld (gW G w) (rvM (w64 M i x) po ts tk le nu ec ep) := by
  refine (hset_wld (i := 64) (r := upd (M 64) i x) rfl).trans ?_
  congr 1
  funext j
  unfold updM rvM w64 updM
  by_cases h : j = 64
  · subst h; rfl
  · by_cases h2 : j = 63
    · subst h2; rfl
    · simp [h, h2]
/-- the counts of a camp that is being read -/
def SR (M : Nat → Nat → Int32) : Prop := (∃ k, M 64 1 = nI k ∧ k ≤ 4) ∧ (∃ k, M 64 2 = nI k ∧ k ≤ 16) ∧ (∃ k, M 64 3 = nI k ∧ k ≤ 12)
def ROV (M : Nat → Nat → Int32) (L : Nat) (r : (Nat → Nat → Int32) × RV) : Prop := SR r.1 ∧ r.1 63 = M 63 ∧ r.1 70 = M 70 ∧ r.2.2.2.1 ≤ L
theorem pc_lt {x : Nat → Int32} {L : Nat} {M : Nat → Nat → Int32} {t : RV} (h : (pc5 x L M t).2.2.2.2.2.1 = 0) : M 64 1 < 4 := by
  rw [show pc5 x L M t = pnV x L 0 16 (pc4 x L M t) from rfl] at h
  have h4 := (pn_ec h).2
  rw [show pc4 x L M t = pnV x L 0 (pc2 x L M t).2.2.2.2.1 (pc3 x L M t) from rfl] at h4
  have h3 := (pn_ec h4).2
  rw [show pc3 x L M t = pnV x L 1 200 (pc2 x L M t) from rfl] at h3
  have h2 := (pn_ec h3).2
  rw [show pc2 x L M t = advV x L (rqV (M 64 1 < 4) 3 t) from rfl, adv_ec] at h2
  exact (rq_ec (by decide) h2).1
theorem pz_lt {x : Nat → Int32} {L : Nat} {M : Nat → Nat → Int32} {t : RV} (h : (pz7 x L M t).2.2.2.2.2.1 = 0) : M 64 3 < 12 := by
  rw [show pz7 x L M t = pnV x L 0 9999 (pz6 x L M t) from rfl] at h
  have h6 := (pn_ec h).2
  rw [show pz6 x L M t = pnV x L 1 14 (pz5 x L M t) from rfl] at h6
  have h5 := (pn_ec h6).2
  rw [show pz5 x L M t = pnV x L (pz3 x L M t).2.2.2.2.1 999 (pz4 x L M t) from rfl] at h5
  have h4 := (pn_ec h5).2
  rw [show pz4 x L M t = pnV x L 0 999 (pz3 x L M t) from rfl] at h4
  have h3 := (pn_ec h4).2
  rw [show pz3 x L M t = pnV x L 0 (M 64 1 - 1) (pz2 x L M t) from rfl] at h3
  have h2 := (pn_ec h3).2
  rw [show pz2 x L M t = advV x L (rqV (M 64 3 < 12) 3 t) from rfl, adv_ec] at h2
  exact (rq_ec (by decide) h2).1
theorem ps_lt {x : Nat → Int32} {L : Nat} {M : Nat → Nat → Int32} {t : RV} (h : (ps2 x L M t).2.2.2.2.2.1 = 0) : M 64 2 < 16 := by
  rw [show ps2 x L M t = pnV x L 0 (M 64 1 - 1) (ps1 M t) from rfl] at h
  obtain ⟨⟨h1, h2⟩, h3⟩ := pn_ec h
  unfold ps1 at h1 h2 h3
  rw [rq_tk] at h1
  rw [rq_nu] at h2
  exact (rq_ec (by decide) h3).1.elim (fun r => absurd h1 r) (fun q => q.elim (fun r => absurd h2 r) id)
theorem sr_C {M : Nat → Nat → Int32} {k : Nat} {a b c : Int32} (h : SR M) (hk : M 64 1 = nI k) (hlt : k < 4) : SR (appendClassM M k a b c) := by
  obtain ⟨-, ⟨k2, h2, h2l⟩, ⟨k3, h3, h3l⟩⟩ := h
  unfold appendClassM
  refine ⟨⟨k + 1, w64_s, by omega⟩, ⟨k2, ?_, h2l⟩, ⟨k3, ?_, h3l⟩⟩
  · rw [w64_at (by omega), w64_at (by omega), w64_at (by omega), w64_at (by omega)]; exact h2
  · rw [w64_at (by omega), w64_at (by omega), w64_at (by omega), w64_at (by omega)]; exact h3
theorem sr_S {M : Nat → Nat → Int32} {k : Nat} {a : Int32} (h : SR M) (hk : M 64 2 = nI k) (hlt : k < 16) : SR (appendSiteM M k a) := by
  obtain ⟨⟨k2, h2, h2l⟩, -, ⟨k3, h3, h3l⟩⟩ := h
  unfold appendSiteM
  refine ⟨⟨k2, ?_, h2l⟩, ⟨k + 1, w64_s, by omega⟩, ⟨k3, ?_, h3l⟩⟩
  · rw [w64_at (by omega), w64_at (by omega), w64_at (by omega)]; exact h2
  · rw [w64_at (by omega), w64_at (by omega), w64_at (by omega)]; exact h3
theorem sr_Z {M : Nat → Nat → Int32} {k : Nat} {a b c d e : Int32} (h : SR M) (hk : M 64 3 = nI k) (hlt : k < 12) : SR (appendSeasonM M k a b c d e) := by
  obtain ⟨⟨k2, h2, h2l⟩, ⟨k3, h3, h3l⟩, -⟩ := h
  unfold appendSeasonM
  refine ⟨⟨k2, ?_, h2l⟩, ⟨k3, ?_, h3l⟩, ⟨k + 1, w64_s, by omega⟩⟩
  · rw [w64_at (by omega), w64_at (by omega), w64_at (by omega), w64_at (by omega), w64_at (by omega), w64_at (by omega)]; exact h2
  · rw [w64_at (by omega), w64_at (by omega), w64_at (by omega), w64_at (by omega), w64_at (by omega), w64_at (by omega)]; exact h3
theorem pc_ok {M : Nat → Nat → Int32} {L : Nat} {t : RV} (h : SR M) (hE : t.2.2.1 ≤ L) : ROV M L (pcV L M t) := by
  have e5 : (pc5 (M 70) L M t).2.2.1 ≤ L := by
    have a2 : (pc2 (M 70) L M t).2.2.1 ≤ L := by unfold pc2; exact adv_E (rq_E hE)
    have a3 : (pc3 (M 70) L M t).2.2.1 ≤ L := by unfold pc3; exact pn_E a2
    have a4 : (pc4 (M 70) L M t).2.2.1 ≤ L := by unfold pc4; exact pn_E a3
    unfold pc5; exact pn_E a4
  have hl : (pc5 (M 70) L M t).2.2.2.2.2.1 = 0 → M 64 1 < 4 := fun h => pc_lt h
  unfold pcV
  generalize pc5 (M 70) L M t = A5 at e5 hl ⊢
  generalize pc4 (M 70) L M t = A4
  generalize pc3 (M 70) L M t = A3
  generalize pc2 (M 70) L M t = A2
  split
  · rename_i q
    obtain ⟨k, hk, hk4⟩ := h.1
    have hlt : k < 4 := lt_of_lt hk (show (4 : Int32) = nI 4 from rfl) (by omega) (by decide) (hl q)
    rw [cl_of hk (by omega)]
    exact ⟨sr_C h hk hlt, rfl, rfl, e5⟩
  · exact ⟨h, rfl, rfl, e5⟩
theorem pz_ok {M : Nat → Nat → Int32} {L : Nat} {t : RV} (h : SR M) (hE : t.2.2.1 ≤ L) : ROV M L (pzV L M t) := by
  have e5 : (pz7 (M 70) L M t).2.2.1 ≤ L := by
    have a2 : (pz2 (M 70) L M t).2.2.1 ≤ L := by unfold pz2; exact adv_E (rq_E hE)
    have a3 : (pz3 (M 70) L M t).2.2.1 ≤ L := by unfold pz3; exact pn_E a2
    have a4 : (pz4 (M 70) L M t).2.2.1 ≤ L := by unfold pz4; exact pn_E a3
    have a5 : (pz5 (M 70) L M t).2.2.1 ≤ L := by unfold pz5; exact pn_E a4
    have a6 : (pz6 (M 70) L M t).2.2.1 ≤ L := by unfold pz6; exact pn_E a5
    unfold pz7; exact pn_E a6
  have hl : (pz7 (M 70) L M t).2.2.2.2.2.1 = 0 → M 64 3 < 12 := fun h => pz_lt h
  unfold pzV
  generalize pz7 (M 70) L M t = A7 at e5 hl ⊢
  generalize pz6 (M 70) L M t = A6
  generalize pz5 (M 70) L M t = A5
  generalize pz4 (M 70) L M t = A4
  generalize pz3 (M 70) L M t = A3
  generalize pz2 (M 70) L M t = A2
  split
  · rename_i q
    obtain ⟨k, hk, hk4⟩ := h.2.2
    have hlt : k < 12 := lt_of_lt hk (show (12 : Int32) = nI 12 from rfl) (by omega) (by decide) (hl q)
    rw [cl_of hk (by omega)]
    exact ⟨sr_Z h hk hlt, rfl, rfl, e5⟩
  · exact ⟨h, rfl, rfl, e5⟩
theorem pdy_ok {M : Nat → Nat → Int32} {L : Nat} {t : RV} (h : SR M) (hE : t.2.2.1 ≤ L) : ROV M L (pdV L M t) := by
  obtain ⟨⟨k1, h1, h1l⟩, ⟨k2, h2, h2l⟩, ⟨k3, h3, h3l⟩⟩ := h
  have a2 : (pd2 (M 70) L t).2.2.1 ≤ L := by unfold pd2; exact adv_E (rq_E hE)
  have e3 : (pd3 (M 70) L t).2.2.1 ≤ L := by unfold pd3; exact pn_E a2
  unfold pdV
  generalize pd3 (M 70) L t = A3 at e3 ⊢
  generalize pd2 (M 70) L t = A2
  refine ⟨⟨⟨k1, h1, h1l⟩, ⟨k2, h2, h2l⟩, ⟨k3, h3, h3l⟩⟩, rfl, rfl, ?_⟩
  exact e3
theorem rov_tr {M N : Nat → Nat → Int32} {L : Nat} {r : (Nat → Nat → Int32) × RV} (h1 : N 63 = M 63) (h2 : N 70 = M 70) (h : ROV N L r) : ROV M L r := ⟨h.1, h.2.1.trans h1, h.2.2.1.trans h2, h.2.2.2⟩
theorem siv_ok {L : Nat} : ∀ (f : Nat) {M : Nat → Nat → Int32} {t : RV}, SR M → t.2.2.1 ≤ L → ROV M L (siV L f M t)
  | 0, M, t, h, hE => ⟨h, rfl, rfl, hE⟩
  | f + 1, M, t, h, hE => by
    have a1 : (ps1 M t).2.2.1 ≤ L := by unfold ps1; exact rq_E hE
    have e2 : (ps2 (M 70) L M t).2.2.1 ≤ L := by unfold ps2; exact pn_E a1
    have hl : (ps2 (M 70) L M t).2.2.2.2.2.1 = 0 → M 64 2 < 16 := fun h => ps_lt h
    unfold siV
    generalize ps2 (M 70) L M t = A2 at e2 hl ⊢
    split
    · exact ⟨h, rfl, rfl, e2⟩
    · rename_i q
      obtain ⟨k, hk, hk4⟩ := h.2.1
      have hlt : k < 16 := lt_of_lt hk (show (16 : Int32) = nI 16 from rfl) (by omega) (by decide) (hl (Classical.not_not.mp q))
      have hS : SR (appendSiteM M (M 64 2).toNatClampNeg t.2.2.2.2.1) := by rw [cl_of hk (by omega)]; exact sr_S h hk hlt
      split
      · exact rov_tr rfl rfl (siv_ok f hS e2)
      · exact ⟨hS, rfl, rfl, e2⟩
theorem smv_ok {M : Nat → Nat → Int32} {L : Nat} {r : (Nat → Nat → Int32) × RV} (h : ROV M L r) : ROV M L (smV L r) := ⟨h.1, h.2.1, h.2.2.1, adv_E (rq_E h.2.2.2)⟩
theorem stv_ok {M : Nat → Nat → Int32} {L : Nat} {t : RV} (h : SR M) (hE : t.2.2.1 ≤ L) : ROV M L (stV L M t) := by
  unfold stV
  refine smv_ok ?_
  split
  · exact pc_ok h hE
  · split
    · exact siv_ok 17 h (adv_E hE)
    · split
      · exact pz_ok h hE
      · exact pdy_ok h hE
set_option maxRecDepth 100000 in
set_option maxHeartbeats 4000000 in
theorem lp_X10_parseSites {G : AG} {n : Nat} (hn : 72 ≤ n) {L : Nat} (hL : L ≤ 500) : ∀ (f : Nat) (M : Nat → Nat → Int32) (t : RV) (ks : Nat), 17 ≤ ks + f → ks ≤ 16 → M 63 10 = nI L → (∀ i, i < 500 → ¬ M 70 i = -1) → t.2.2.1 ≤ L → M 64 2 = nI ks →  AW tX10_parseSites (AQm tX10_parseSites (PD (.inl none) (wld (gv G (siV L f M t).2) (rv (siV L f M t).1 (siV L f M t).2)) n)) C0 6 [some (.ref 63), some (.int 1), none, none] [] (wld (gv G t) (rv M t)) n 0 0 := by
  intro f
  induction f with
  | zero => intro M t ks h1; omega
  | succ f ih =>
    intro M t ks h17 hs4 hl hx hE hs
    refine aw_iload_n dX10_parseSites_6 rfl ?_
    refine aw_if_eq 101 dX10_parseSites_7 (by decide) (fun q => absurd q (by decide)) (fun _ => ?_)
    refine aw_aload_n dX10_parseSites_10 rfl ?_
    refine aw_aload_n dX10_parseSites_11 rfl ?_
    refine aw_get fl_X10_235 dX10_parseSites_12 ev_63 (l_63 hn) rfl ?_
    refine aw_iconst (v := 3) dX10_parseSites_15 (by decide) ?_
    refine aw_icmp_ne 41 dX10_parseSites_16 (by decide) (fun c16 => ?_) (fun c16 => ?_)
    · refine aw_iconst (v := 1) dX10_parseSites_41 (by decide) ?_
      refine aw_goto 46 dX10_parseSites_42 (by decide) ?_
      refine aw_iconst (v := 3) dX10_parseSites_46 (by decide) ?_
      refine ap_callVv kv_X10_264 ko_X10_require (c_X10_require (t := t) hn _ 3) dX10_parseSites_47 ev_63 (l_63 hn) rfl rfl rfl rfl (ble' rfl) (by decide) ?_
      rw [rq_1 (P := ¬ t.1 = 3 ∨ ¬ (0 ≤ t.2.2.2.2.1 ∧ t.2.2.2.2.1 ≤ M 64 1 - 1) ∨ M 64 2 < 16) (Or.inl c16)]
      obtain ⟨t1, ht1⟩ : ∃ t9, t9 = rqV (¬ t.1 = 3 ∨ ¬ (0 ≤ t.2.2.2.2.1 ∧ t.2.2.2.2.1 ≤ M 64 1 - 1) ∨ M 64 2 < 16) 3 t := ⟨_, rfl⟩
      rw [← ht1]
      refine aw_aload_n dX10_parseSites_50 rfl ?_
      refine aw_iconst (v := 0) dX10_parseSites_51 (by decide) ?_
      refine aw_aload_n dX10_parseSites_52 rfl ?_
      refine aw_get fl_X10_7 dX10_parseSites_53 ev_63 (l_63 hn) rfl ?_
      refine aw_iconst (v := 1) dX10_parseSites_56 (by decide) ?_
      refine aw_ialdk dX10_parseSites_57 ev_64 (l_64 hn) (show (1 : Int32) = nI 1 from rfl) (by decide) rfl ?_
      refine aw_iconst (v := 1) dX10_parseSites_58 (by decide) ?_
      refine aw_isub dX10_parseSites_59 ?_
      refine ap_callVi kv_X10_271 ko_X10_parseNumber (c_X10_parseNumber hn hl hL hx (t := t1) (by rw [ht1]; exact rq_E hE) _ _) dX10_parseSites_60 ev_63 (l_63 hn) rfl rfl rfl rfl (ble' rfl) (by decide) ?_
      obtain ⟨t2, ht2⟩ : ∃ t9, t9 = pnV (M 70) L 0 (M 64 1 - 1) t1 := ⟨_, rfl⟩
      have Et2 : t2.2.2.1 ≤ L := by rw [ht2]; exact pn_E (by rw [ht1]; exact rq_E hE)
      rw [← ht2]
      have ev : t1.2.2.2.2.1 = t.2.2.2.2.1 := by rw [ht1]; exact rq_nu
      rw [ev]
      refine aw_istore_n (lo' := [_, _, some (.int _), _]) dX10_parseSites_63 (by decide) rfl ?_
      refine aw_aload_n dX10_parseSites_64 rfl ?_
      refine aw_get fl_X10_258 dX10_parseSites_65 ev_63 (l_63 hn) rfl ?_
      refine aw_if_ne 77 dX10_parseSites_68 (by decide) (fun c68 => ?_) (fun c68 => ?_)
      · refine aw_aload_n dX10_parseSites_77 rfl ?_
        refine aw_get fl_X10_258 dX10_parseSites_78 ev_63 (l_63 hn) rfl ?_
        refine aw_if_ne 96 dX10_parseSites_81 (by decide) (fun _ => ?_) (fun q => absurd q c68)
        refine aw_iconst (v := 0) dX10_parseSites_96 (by decide) ?_
        refine aw_istore_n (lo' := [_, some (.int _), _, _]) dX10_parseSites_97 (by decide) rfl ?_
        refine aw_goto 6 dX10_parseSites_98 (by decide) ?_
        have f2 : t2 = ps2 (M 70) L M t := by rw [ht2, ht1]; rfl
        refine aw_iload_n dX10_parseSites_6 rfl ?_
        refine aw_if_eq 101 dX10_parseSites_7 (by decide) (fun _ => ?_) (fun q => absurd rfl q)
        refine aw_vret rfl dX10_parseSites_101 (ble' rfl) (ble' rfl) ?_
        exact pd_v (by rw [siV, if_pos (by rw [← f2]; exact c68), ← f2])
      · refine aw_aload_n dX10_parseSites_71 rfl ?_
        refine aw_iload_n dX10_parseSites_72 rfl ?_
        have f2 : t2 = ps2 (M 70) L M t := by rw [ht2, ht1]; rfl
        have hlt : ks < 16 := lt_of_lt hs (show (16 : Int32) = nI 16 from rfl) (by omega) (by decide) (ps_lt (by rw [← f2]; exact c68))
        refine ap_callVi kv_X10_55 ko_X10_appendSite (c_X10_appendSite (M := rv M t2) hn hs hlt _) dX10_parseSites_73 ev_63 (l_63 hn) rfl rfl rfl rfl (ble' rfl) (by decide) ?_
        rw [apS_rv]
        refine aw_istore_n (lo' := [_, _, _, some (.int _)]) dX10_parseSites_76 (by decide) rfl ?_
        refine aw_aload_n dX10_parseSites_77 rfl ?_
        refine aw_get fl_X10_258 dX10_parseSites_78 ev_63 (l_63 hn) rfl ?_
        refine aw_if_ne 96 dX10_parseSites_81 (by decide) (fun q => absurd c68 q) (fun _ => ?_)
        refine aw_aload_n dX10_parseSites_84 rfl ?_
        refine aw_get fl_X10_235 dX10_parseSites_85 ev_63 (l_63 hn) rfl ?_
        refine aw_iconst (v := 3) dX10_parseSites_88 (by decide) ?_
        refine aw_icmp_ne 96 dX10_parseSites_89 (by decide) (fun c89 => ?_) (fun c89 => ?_)
        · refine aw_iconst (v := 0) dX10_parseSites_96 (by decide) ?_
          refine aw_istore_n (lo' := [_, some (.int _), _, _]) dX10_parseSites_97 (by decide) rfl ?_
          refine aw_goto 6 dX10_parseSites_98 (by decide) ?_
          have f2 : t2 = ps2 (M 70) L M t := by rw [ht2, ht1]; rfl
          refine aw_iload_n dX10_parseSites_6 rfl ?_
          refine aw_if_eq 101 dX10_parseSites_7 (by decide) (fun _ => ?_) (fun q => absurd rfl q)
          refine aw_vret rfl dX10_parseSites_101 (ble' rfl) (ble' rfl) ?_
          exact pd_v (by rw [siV, if_neg (by rw [← f2]; exact fun r => r c68), if_neg (by rw [← f2]; exact c89), ← f2, cl_of hs (by omega)])
        · refine aw_iconst (v := 1) dX10_parseSites_92 (by decide) ?_
          refine aw_goto 97 dX10_parseSites_93 (by decide) ?_
          refine aw_istore_n (lo' := [_, some (.int _), _, _]) dX10_parseSites_97 (by decide) rfl ?_
          refine aw_goto 6 dX10_parseSites_98 (by decide) ?_
          have f2 : t2 = ps2 (M 70) L M t := by rw [ht2, ht1]; rfl
          refine aw_lo2 (lo' := [some (.ref 63), some (.int 1), none, none]) ⟨rfl, rfl, trivial⟩ ?_
          rw [show siV L (f + 1) M t = siV L f (appendSiteM M ks t.2.2.2.2.1) t2 from by rw [siV, if_neg (by rw [← f2]; exact fun r => r c68), if_pos (by rw [← f2]; exact c89), ← f2, cl_of hs (by omega)]]
          exact ih (appendSiteM M ks t.2.2.2.2.1) t2 (ks + 1) (by omega) (by omega) hl hx Et2 w64_s
    · refine aw_aload_n dX10_parseSites_19 rfl ?_
      refine aw_aload_n dX10_parseSites_20 rfl ?_
      refine aw_get fl_X10_232 dX10_parseSites_21 ev_63 (l_63 hn) rfl ?_
      refine ap_callVi kv_X10_51 ko_X10_isClass (c_X10_isClass hn _) dX10_parseSites_24 ev_63 (l_63 hn) rfl rfl rfl rfl (ble' rfl) (by decide) ?_
      refine aw_if_eq 41 dX10_parseSites_27 (by decide) (fun c27 => ?_) (fun c27 => ?_)
      · have n27 := bI_z.mp c27
        refine aw_iconst (v := 1) dX10_parseSites_41 (by decide) ?_
        refine aw_goto 46 dX10_parseSites_42 (by decide) ?_
        refine aw_iconst (v := 3) dX10_parseSites_46 (by decide) ?_
        refine ap_callVv kv_X10_264 ko_X10_require (c_X10_require (t := t) hn _ 3) dX10_parseSites_47 ev_63 (l_63 hn) rfl rfl rfl rfl (ble' rfl) (by decide) ?_
        rw [rq_1 (P := ¬ t.1 = 3 ∨ ¬ (0 ≤ t.2.2.2.2.1 ∧ t.2.2.2.2.1 ≤ M 64 1 - 1) ∨ M 64 2 < 16) (Or.inr (Or.inl n27))]
        obtain ⟨t1, ht1⟩ : ∃ t9, t9 = rqV (¬ t.1 = 3 ∨ ¬ (0 ≤ t.2.2.2.2.1 ∧ t.2.2.2.2.1 ≤ M 64 1 - 1) ∨ M 64 2 < 16) 3 t := ⟨_, rfl⟩
        rw [← ht1]
        refine aw_aload_n dX10_parseSites_50 rfl ?_
        refine aw_iconst (v := 0) dX10_parseSites_51 (by decide) ?_
        refine aw_aload_n dX10_parseSites_52 rfl ?_
        refine aw_get fl_X10_7 dX10_parseSites_53 ev_63 (l_63 hn) rfl ?_
        refine aw_iconst (v := 1) dX10_parseSites_56 (by decide) ?_
        refine aw_ialdk dX10_parseSites_57 ev_64 (l_64 hn) (show (1 : Int32) = nI 1 from rfl) (by decide) rfl ?_
        refine aw_iconst (v := 1) dX10_parseSites_58 (by decide) ?_
        refine aw_isub dX10_parseSites_59 ?_
        refine ap_callVi kv_X10_271 ko_X10_parseNumber (c_X10_parseNumber hn hl hL hx (t := t1) (by rw [ht1]; exact rq_E hE) _ _) dX10_parseSites_60 ev_63 (l_63 hn) rfl rfl rfl rfl (ble' rfl) (by decide) ?_
        obtain ⟨t2, ht2⟩ : ∃ t9, t9 = pnV (M 70) L 0 (M 64 1 - 1) t1 := ⟨_, rfl⟩
        have Et2 : t2.2.2.1 ≤ L := by rw [ht2]; exact pn_E (by rw [ht1]; exact rq_E hE)
        rw [← ht2]
        have ev : t1.2.2.2.2.1 = t.2.2.2.2.1 := by rw [ht1]; exact rq_nu
        rw [ev]
        refine aw_istore_n (lo' := [_, _, some (.int _), _]) dX10_parseSites_63 (by decide) rfl ?_
        refine aw_aload_n dX10_parseSites_64 rfl ?_
        refine aw_get fl_X10_258 dX10_parseSites_65 ev_63 (l_63 hn) rfl ?_
        refine aw_if_ne 77 dX10_parseSites_68 (by decide) (fun c68 => ?_) (fun c68 => ?_)
        · refine aw_aload_n dX10_parseSites_77 rfl ?_
          refine aw_get fl_X10_258 dX10_parseSites_78 ev_63 (l_63 hn) rfl ?_
          refine aw_if_ne 96 dX10_parseSites_81 (by decide) (fun _ => ?_) (fun q => absurd q c68)
          refine aw_iconst (v := 0) dX10_parseSites_96 (by decide) ?_
          refine aw_istore_n (lo' := [_, some (.int _), _, _]) dX10_parseSites_97 (by decide) rfl ?_
          refine aw_goto 6 dX10_parseSites_98 (by decide) ?_
          have f2 : t2 = ps2 (M 70) L M t := by rw [ht2, ht1]; rfl
          refine aw_iload_n dX10_parseSites_6 rfl ?_
          refine aw_if_eq 101 dX10_parseSites_7 (by decide) (fun _ => ?_) (fun q => absurd rfl q)
          refine aw_vret rfl dX10_parseSites_101 (ble' rfl) (ble' rfl) ?_
          exact pd_v (by rw [siV, if_pos (by rw [← f2]; exact c68), ← f2])
        · refine aw_aload_n dX10_parseSites_71 rfl ?_
          refine aw_iload_n dX10_parseSites_72 rfl ?_
          have f2 : t2 = ps2 (M 70) L M t := by rw [ht2, ht1]; rfl
          have hlt : ks < 16 := lt_of_lt hs (show (16 : Int32) = nI 16 from rfl) (by omega) (by decide) (ps_lt (by rw [← f2]; exact c68))
          refine ap_callVi kv_X10_55 ko_X10_appendSite (c_X10_appendSite (M := rv M t2) hn hs hlt _) dX10_parseSites_73 ev_63 (l_63 hn) rfl rfl rfl rfl (ble' rfl) (by decide) ?_
          rw [apS_rv]
          refine aw_istore_n (lo' := [_, _, _, some (.int _)]) dX10_parseSites_76 (by decide) rfl ?_
          refine aw_aload_n dX10_parseSites_77 rfl ?_
          refine aw_get fl_X10_258 dX10_parseSites_78 ev_63 (l_63 hn) rfl ?_
          refine aw_if_ne 96 dX10_parseSites_81 (by decide) (fun q => absurd c68 q) (fun _ => ?_)
          refine aw_aload_n dX10_parseSites_84 rfl ?_
          refine aw_get fl_X10_235 dX10_parseSites_85 ev_63 (l_63 hn) rfl ?_
          refine aw_iconst (v := 3) dX10_parseSites_88 (by decide) ?_
          refine aw_icmp_ne 96 dX10_parseSites_89 (by decide) (fun c89 => ?_) (fun c89 => ?_)
          · refine aw_iconst (v := 0) dX10_parseSites_96 (by decide) ?_
            refine aw_istore_n (lo' := [_, some (.int _), _, _]) dX10_parseSites_97 (by decide) rfl ?_
            refine aw_goto 6 dX10_parseSites_98 (by decide) ?_
            have f2 : t2 = ps2 (M 70) L M t := by rw [ht2, ht1]; rfl
            refine aw_iload_n dX10_parseSites_6 rfl ?_
            refine aw_if_eq 101 dX10_parseSites_7 (by decide) (fun _ => ?_) (fun q => absurd rfl q)
            refine aw_vret rfl dX10_parseSites_101 (ble' rfl) (ble' rfl) ?_
            exact pd_v (by rw [siV, if_neg (by rw [← f2]; exact fun r => r c68), if_neg (by rw [← f2]; exact c89), ← f2, cl_of hs (by omega)])
          · refine aw_iconst (v := 1) dX10_parseSites_92 (by decide) ?_
            refine aw_goto 97 dX10_parseSites_93 (by decide) ?_
            refine aw_istore_n (lo' := [_, some (.int _), _, _]) dX10_parseSites_97 (by decide) rfl ?_
            refine aw_goto 6 dX10_parseSites_98 (by decide) ?_
            have f2 : t2 = ps2 (M 70) L M t := by rw [ht2, ht1]; rfl
            refine aw_lo2 (lo' := [some (.ref 63), some (.int 1), none, none]) ⟨rfl, rfl, trivial⟩ ?_
            rw [show siV L (f + 1) M t = siV L f (appendSiteM M ks t.2.2.2.2.1) t2 from by rw [siV, if_neg (by rw [← f2]; exact fun r => r c68), if_pos (by rw [← f2]; exact c89), ← f2, cl_of hs (by omega)]]
            exact ih (appendSiteM M ks t.2.2.2.2.1) t2 (ks + 1) (by omega) (by omega) hl hx Et2 w64_s
      · have n27 := bI_nz.mp c27
        refine aw_aload_n dX10_parseSites_30 rfl ?_
        refine aw_get fl_X10_7 dX10_parseSites_31 ev_63 (l_63 hn) rfl ?_
        refine aw_iconst (v := 2) dX10_parseSites_34 (by decide) ?_
        refine aw_ialdk dX10_parseSites_35 ev_64 (l_64 hn) (show (2 : Int32) = nI 2 from rfl) (by decide) rfl ?_
        refine aw_bipush (v := 16) dX10_parseSites_36 (by decide) ?_
        refine aw_icmp_ge 45 dX10_parseSites_38 (by decide) (fun c38 => ?_) (fun c38 => ?_)
        · have n38 := Int32.not_lt.mpr c38
          refine aw_iconst (v := 0) dX10_parseSites_45 (by decide) ?_
          refine aw_iconst (v := 3) dX10_parseSites_46 (by decide) ?_
          refine ap_callVv kv_X10_264 ko_X10_require (c_X10_require (t := t) hn _ 3) dX10_parseSites_47 ev_63 (l_63 hn) rfl rfl rfl rfl (ble' rfl) (by decide) ?_
          rw [rq_0 (P := ¬ t.1 = 3 ∨ ¬ (0 ≤ t.2.2.2.2.1 ∧ t.2.2.2.2.1 ≤ M 64 1 - 1) ∨ M 64 2 < 16) (fun q => q.elim (fun r => r c16) (fun q => q.elim (fun r => r n27) n38))]
          obtain ⟨t1, ht1⟩ : ∃ t9, t9 = rqV (¬ t.1 = 3 ∨ ¬ (0 ≤ t.2.2.2.2.1 ∧ t.2.2.2.2.1 ≤ M 64 1 - 1) ∨ M 64 2 < 16) 3 t := ⟨_, rfl⟩
          rw [← ht1]
          refine aw_aload_n dX10_parseSites_50 rfl ?_
          refine aw_iconst (v := 0) dX10_parseSites_51 (by decide) ?_
          refine aw_aload_n dX10_parseSites_52 rfl ?_
          refine aw_get fl_X10_7 dX10_parseSites_53 ev_63 (l_63 hn) rfl ?_
          refine aw_iconst (v := 1) dX10_parseSites_56 (by decide) ?_
          refine aw_ialdk dX10_parseSites_57 ev_64 (l_64 hn) (show (1 : Int32) = nI 1 from rfl) (by decide) rfl ?_
          refine aw_iconst (v := 1) dX10_parseSites_58 (by decide) ?_
          refine aw_isub dX10_parseSites_59 ?_
          refine ap_callVi kv_X10_271 ko_X10_parseNumber (c_X10_parseNumber hn hl hL hx (t := t1) (by rw [ht1]; exact rq_E hE) _ _) dX10_parseSites_60 ev_63 (l_63 hn) rfl rfl rfl rfl (ble' rfl) (by decide) ?_
          obtain ⟨t2, ht2⟩ : ∃ t9, t9 = pnV (M 70) L 0 (M 64 1 - 1) t1 := ⟨_, rfl⟩
          have Et2 : t2.2.2.1 ≤ L := by rw [ht2]; exact pn_E (by rw [ht1]; exact rq_E hE)
          rw [← ht2]
          have ev : t1.2.2.2.2.1 = t.2.2.2.2.1 := by rw [ht1]; exact rq_nu
          rw [ev]
          refine aw_istore_n (lo' := [_, _, some (.int _), _]) dX10_parseSites_63 (by decide) rfl ?_
          refine aw_aload_n dX10_parseSites_64 rfl ?_
          refine aw_get fl_X10_258 dX10_parseSites_65 ev_63 (l_63 hn) rfl ?_
          refine aw_if_ne 77 dX10_parseSites_68 (by decide) (fun c68 => ?_) (fun c68 => ?_)
          · refine aw_aload_n dX10_parseSites_77 rfl ?_
            refine aw_get fl_X10_258 dX10_parseSites_78 ev_63 (l_63 hn) rfl ?_
            refine aw_if_ne 96 dX10_parseSites_81 (by decide) (fun _ => ?_) (fun q => absurd q c68)
            refine aw_iconst (v := 0) dX10_parseSites_96 (by decide) ?_
            refine aw_istore_n (lo' := [_, some (.int _), _, _]) dX10_parseSites_97 (by decide) rfl ?_
            refine aw_goto 6 dX10_parseSites_98 (by decide) ?_
            have f2 : t2 = ps2 (M 70) L M t := by rw [ht2, ht1]; rfl
            refine aw_iload_n dX10_parseSites_6 rfl ?_
            refine aw_if_eq 101 dX10_parseSites_7 (by decide) (fun _ => ?_) (fun q => absurd rfl q)
            refine aw_vret rfl dX10_parseSites_101 (ble' rfl) (ble' rfl) ?_
            exact pd_v (by rw [siV, if_pos (by rw [← f2]; exact c68), ← f2])
          · refine aw_aload_n dX10_parseSites_71 rfl ?_
            refine aw_iload_n dX10_parseSites_72 rfl ?_
            have f2 : t2 = ps2 (M 70) L M t := by rw [ht2, ht1]; rfl
            have hlt : ks < 16 := lt_of_lt hs (show (16 : Int32) = nI 16 from rfl) (by omega) (by decide) (ps_lt (by rw [← f2]; exact c68))
            refine ap_callVi kv_X10_55 ko_X10_appendSite (c_X10_appendSite (M := rv M t2) hn hs hlt _) dX10_parseSites_73 ev_63 (l_63 hn) rfl rfl rfl rfl (ble' rfl) (by decide) ?_
            rw [apS_rv]
            refine aw_istore_n (lo' := [_, _, _, some (.int _)]) dX10_parseSites_76 (by decide) rfl ?_
            refine aw_aload_n dX10_parseSites_77 rfl ?_
            refine aw_get fl_X10_258 dX10_parseSites_78 ev_63 (l_63 hn) rfl ?_
            refine aw_if_ne 96 dX10_parseSites_81 (by decide) (fun q => absurd c68 q) (fun _ => ?_)
            refine aw_aload_n dX10_parseSites_84 rfl ?_
            refine aw_get fl_X10_235 dX10_parseSites_85 ev_63 (l_63 hn) rfl ?_
            refine aw_iconst (v := 3) dX10_parseSites_88 (by decide) ?_
            refine aw_icmp_ne 96 dX10_parseSites_89 (by decide) (fun c89 => ?_) (fun c89 => ?_)
            · refine aw_iconst (v := 0) dX10_parseSites_96 (by decide) ?_
              refine aw_istore_n (lo' := [_, some (.int _), _, _]) dX10_parseSites_97 (by decide) rfl ?_
              refine aw_goto 6 dX10_parseSites_98 (by decide) ?_
              have f2 : t2 = ps2 (M 70) L M t := by rw [ht2, ht1]; rfl
              refine aw_iload_n dX10_parseSites_6 rfl ?_
              refine aw_if_eq 101 dX10_parseSites_7 (by decide) (fun _ => ?_) (fun q => absurd rfl q)
              refine aw_vret rfl dX10_parseSites_101 (ble' rfl) (ble' rfl) ?_
              exact pd_v (by rw [siV, if_neg (by rw [← f2]; exact fun r => r c68), if_neg (by rw [← f2]; exact c89), ← f2, cl_of hs (by omega)])
            · refine aw_iconst (v := 1) dX10_parseSites_92 (by decide) ?_
              refine aw_goto 97 dX10_parseSites_93 (by decide) ?_
              refine aw_istore_n (lo' := [_, some (.int _), _, _]) dX10_parseSites_97 (by decide) rfl ?_
              refine aw_goto 6 dX10_parseSites_98 (by decide) ?_
              have f2 : t2 = ps2 (M 70) L M t := by rw [ht2, ht1]; rfl
              refine aw_lo2 (lo' := [some (.ref 63), some (.int 1), none, none]) ⟨rfl, rfl, trivial⟩ ?_
              rw [show siV L (f + 1) M t = siV L f (appendSiteM M ks t.2.2.2.2.1) t2 from by rw [siV, if_neg (by rw [← f2]; exact fun r => r c68), if_pos (by rw [← f2]; exact c89), ← f2, cl_of hs (by omega)]]
              exact ih (appendSiteM M ks t.2.2.2.2.1) t2 (ks + 1) (by omega) (by omega) hl hx Et2 w64_s
        · have n38 := Int32.not_le.mp c38
          refine aw_iconst (v := 1) dX10_parseSites_41 (by decide) ?_
          refine aw_goto 46 dX10_parseSites_42 (by decide) ?_
          refine aw_iconst (v := 3) dX10_parseSites_46 (by decide) ?_
          refine ap_callVv kv_X10_264 ko_X10_require (c_X10_require (t := t) hn _ 3) dX10_parseSites_47 ev_63 (l_63 hn) rfl rfl rfl rfl (ble' rfl) (by decide) ?_
          rw [rq_1 (P := ¬ t.1 = 3 ∨ ¬ (0 ≤ t.2.2.2.2.1 ∧ t.2.2.2.2.1 ≤ M 64 1 - 1) ∨ M 64 2 < 16) (Or.inr (Or.inr n38))]
          obtain ⟨t1, ht1⟩ : ∃ t9, t9 = rqV (¬ t.1 = 3 ∨ ¬ (0 ≤ t.2.2.2.2.1 ∧ t.2.2.2.2.1 ≤ M 64 1 - 1) ∨ M 64 2 < 16) 3 t := ⟨_, rfl⟩
          rw [← ht1]
          refine aw_aload_n dX10_parseSites_50 rfl ?_
          refine aw_iconst (v := 0) dX10_parseSites_51 (by decide) ?_
          refine aw_aload_n dX10_parseSites_52 rfl ?_
          refine aw_get fl_X10_7 dX10_parseSites_53 ev_63 (l_63 hn) rfl ?_
          refine aw_iconst (v := 1) dX10_parseSites_56 (by decide) ?_
          refine aw_ialdk dX10_parseSites_57 ev_64 (l_64 hn) (show (1 : Int32) = nI 1 from rfl) (by decide) rfl ?_
          refine aw_iconst (v := 1) dX10_parseSites_58 (by decide) ?_
          refine aw_isub dX10_parseSites_59 ?_
          refine ap_callVi kv_X10_271 ko_X10_parseNumber (c_X10_parseNumber hn hl hL hx (t := t1) (by rw [ht1]; exact rq_E hE) _ _) dX10_parseSites_60 ev_63 (l_63 hn) rfl rfl rfl rfl (ble' rfl) (by decide) ?_
          obtain ⟨t2, ht2⟩ : ∃ t9, t9 = pnV (M 70) L 0 (M 64 1 - 1) t1 := ⟨_, rfl⟩
          have Et2 : t2.2.2.1 ≤ L := by rw [ht2]; exact pn_E (by rw [ht1]; exact rq_E hE)
          rw [← ht2]
          have ev : t1.2.2.2.2.1 = t.2.2.2.2.1 := by rw [ht1]; exact rq_nu
          rw [ev]
          refine aw_istore_n (lo' := [_, _, some (.int _), _]) dX10_parseSites_63 (by decide) rfl ?_
          refine aw_aload_n dX10_parseSites_64 rfl ?_
          refine aw_get fl_X10_258 dX10_parseSites_65 ev_63 (l_63 hn) rfl ?_
          refine aw_if_ne 77 dX10_parseSites_68 (by decide) (fun c68 => ?_) (fun c68 => ?_)
          · refine aw_aload_n dX10_parseSites_77 rfl ?_
            refine aw_get fl_X10_258 dX10_parseSites_78 ev_63 (l_63 hn) rfl ?_
            refine aw_if_ne 96 dX10_parseSites_81 (by decide) (fun _ => ?_) (fun q => absurd q c68)
            refine aw_iconst (v := 0) dX10_parseSites_96 (by decide) ?_
            refine aw_istore_n (lo' := [_, some (.int _), _, _]) dX10_parseSites_97 (by decide) rfl ?_
            refine aw_goto 6 dX10_parseSites_98 (by decide) ?_
            have f2 : t2 = ps2 (M 70) L M t := by rw [ht2, ht1]; rfl
            refine aw_iload_n dX10_parseSites_6 rfl ?_
            refine aw_if_eq 101 dX10_parseSites_7 (by decide) (fun _ => ?_) (fun q => absurd rfl q)
            refine aw_vret rfl dX10_parseSites_101 (ble' rfl) (ble' rfl) ?_
            exact pd_v (by rw [siV, if_pos (by rw [← f2]; exact c68), ← f2])
          · refine aw_aload_n dX10_parseSites_71 rfl ?_
            refine aw_iload_n dX10_parseSites_72 rfl ?_
            have f2 : t2 = ps2 (M 70) L M t := by rw [ht2, ht1]; rfl
            have hlt : ks < 16 := lt_of_lt hs (show (16 : Int32) = nI 16 from rfl) (by omega) (by decide) (ps_lt (by rw [← f2]; exact c68))
            refine ap_callVi kv_X10_55 ko_X10_appendSite (c_X10_appendSite (M := rv M t2) hn hs hlt _) dX10_parseSites_73 ev_63 (l_63 hn) rfl rfl rfl rfl (ble' rfl) (by decide) ?_
            rw [apS_rv]
            refine aw_istore_n (lo' := [_, _, _, some (.int _)]) dX10_parseSites_76 (by decide) rfl ?_
            refine aw_aload_n dX10_parseSites_77 rfl ?_
            refine aw_get fl_X10_258 dX10_parseSites_78 ev_63 (l_63 hn) rfl ?_
            refine aw_if_ne 96 dX10_parseSites_81 (by decide) (fun q => absurd c68 q) (fun _ => ?_)
            refine aw_aload_n dX10_parseSites_84 rfl ?_
            refine aw_get fl_X10_235 dX10_parseSites_85 ev_63 (l_63 hn) rfl ?_
            refine aw_iconst (v := 3) dX10_parseSites_88 (by decide) ?_
            refine aw_icmp_ne 96 dX10_parseSites_89 (by decide) (fun c89 => ?_) (fun c89 => ?_)
            · refine aw_iconst (v := 0) dX10_parseSites_96 (by decide) ?_
              refine aw_istore_n (lo' := [_, some (.int _), _, _]) dX10_parseSites_97 (by decide) rfl ?_
              refine aw_goto 6 dX10_parseSites_98 (by decide) ?_
              have f2 : t2 = ps2 (M 70) L M t := by rw [ht2, ht1]; rfl
              refine aw_iload_n dX10_parseSites_6 rfl ?_
              refine aw_if_eq 101 dX10_parseSites_7 (by decide) (fun _ => ?_) (fun q => absurd rfl q)
              refine aw_vret rfl dX10_parseSites_101 (ble' rfl) (ble' rfl) ?_
              exact pd_v (by rw [siV, if_neg (by rw [← f2]; exact fun r => r c68), if_neg (by rw [← f2]; exact c89), ← f2, cl_of hs (by omega)])
            · refine aw_iconst (v := 1) dX10_parseSites_92 (by decide) ?_
              refine aw_goto 97 dX10_parseSites_93 (by decide) ?_
              refine aw_istore_n (lo' := [_, some (.int _), _, _]) dX10_parseSites_97 (by decide) rfl ?_
              refine aw_goto 6 dX10_parseSites_98 (by decide) ?_
              have f2 : t2 = ps2 (M 70) L M t := by rw [ht2, ht1]; rfl
              refine aw_lo2 (lo' := [some (.ref 63), some (.int 1), none, none]) ⟨rfl, rfl, trivial⟩ ?_
              rw [show siV L (f + 1) M t = siV L f (appendSiteM M ks t.2.2.2.2.1) t2 from by rw [siV, if_neg (by rw [← f2]; exact fun r => r c68), if_pos (by rw [← f2]; exact c89), ← f2, cl_of hs (by omega)]]
              exact ih (appendSiteM M ks t.2.2.2.2.1) t2 (ks + 1) (by omega) (by omega) hl hx Et2 w64_s

set_option maxRecDepth 100000 in
set_option maxHeartbeats 4000000 in
theorem c_X10_parseSites {G : AG} {M : Nat → Nat → Int32} {n : Nat} (hn : 72 ≤ n) {L : Nat} (hl : M 63 10 = nI L) (hL : L ≤ 500) (hx : ∀ i, i < 500 → ¬ M 70 i = -1) {t : RV} (hE : t.2.2.1 ≤ L) {ks : Nat} (hs : M 64 2 = nI ks) (hs4 : ks ≤ 16) : AMet tX10_parseSites yX10_parseSites [Cond.code yX10_parseSites cX10_parseSites 4 none] [.ref 63] (wld (gv G t) (rv M t)) n (PD (.inl none) (wld (gv G (siV L 17 M (advV (M 70) L t)).2) (rv (siV L 17 M (advV (M 70) L t)).1 (siV L 17 M (advV (M 70) L t)).2)) n) := by
  refine am_of (lo := [_, _, _, _]) (by decide) rfl (fun q => by cases q) rfl rfl rfl ?_
  refine aw_aload_n dX10_parseSites_0 rfl ?_
  refine ap_callVv kv_X10_268 ko_X10_advanceToken (c_X10_advanceToken hn hl hL hx hE) dX10_parseSites_1 ev_63 (l_63 hn) rfl rfl rfl rfl (ble' rfl) (by decide) ?_
  refine aw_iconst (v := 1) dX10_parseSites_4 (by decide) ?_
  refine aw_istore_n (lo' := [_, some (.int _), _, _]) dX10_parseSites_5 (by decide) rfl ?_
  exact lp_X10_parseSites hn hL 17 M (advV (M 70) L t) ks (by omega) hs4 hl hx (adv_E hE) hs
