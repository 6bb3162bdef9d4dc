section Sim3
variable {x y : Nat → Int32} {L : Nat} {M N : Nat → Nat → Int32} {t : RT} {t' : RV}
theorem s_sz (hL : L ≤ 500) (hb : ∀ k, k < L → byt (x k) (y k)) (hx : M 61 = x) (hy : N 70 = y) (h : TR x L t t') (hd : DX M N) : SS x L M (szT M L t) (pzV L N t') t.2.1 := by
  obtain ⟨nc, ns, nz, tt, hS, hI⟩ := hd
  have hnc : M 29 3 = nI nc := hS.1.1
  have hnc' : N 64 1 = nI nc := hS.2.1.1
  have h4 : nc ≤ 4 := hS.1.2.1
  have hnz : M 36 5 = nI nz := hS.1.2.2.2.2.1
  have hnz' : N 64 3 = nI nz := hS.2.1.2.2.2.2.1
  have h12 : nz ≤ 12 := hS.1.2.2.2.2.2.1
  have f := tr_f hL h
  have e2 : pz2 y L N t' = pz2 x L N t' := advV_cg hb _
  have e3 : pz3 y L N t' = pz3 x L N t' := by unfold pz3; rw [pnV_cg hb, e2]
  have e4 : pz4 y L N t' = pz4 x L N t' := by unfold pz4; rw [pnV_cg hb, e3]
  have e5 : pz5 y L N t' = pz5 x L N t' := by unfold pz5; rw [pnV_cg hb, e3, e4]
  have e6 : pz6 y L N t' = pz6 x L N t' := by unfold pz6; rw [pnV_cg hb, e5]
  have e7 : pz7 y L N t' = pz7 x L N t' := by unfold pz7; rw [pnV_cg hb, e6]
  unfold szT pzV
  rw [hx, hy, e2, e3, e4, e5, e6, e7]
  by_cases q : 12 ≤ M 36 5
  · have q' : ¬ N 64 3 < 12 := by rw [hnz', ← hnz]; exact Int32.not_lt.mpr q
    obtain ⟨E, hE⟩ : ∃ E : RV, E = (t'.1, t'.2.1, t'.2.2.1, t'.2.2.2.1, t'.2.2.2.2.1, 3, nI t'.2.1, t'.2.2.2.2.2.2.2) := ⟨_, rfl⟩
    have z : ¬ E.2.2.2.2.2.1 = 0 := by rw [hE]; exact (show ¬ (3 : Int32) = 0 by decide)
    have g2 : pz2 x L N t' = E := by
      unfold pz2; rw [rq_f q' f.e0, ← hE, ad_e z]
    have g7 : pz7 x L N t' = E := by
      unfold pz7 pz6 pz5 pz4 pz3; rw [g2, pn_e z, pn_e z, pn_e z, pn_e z, pn_e z]
    rw [if_pos q, g7, if_neg z, hE]
    exact ss_f (er_fail hL h (by decide))
  · have q' : N 64 3 < 12 := by rw [hnz', ← hnz]; exact Int32.not_le.mp q
    have g2 : pz2 x L N t' = stpV x L t' := by unfold pz2 advV; rw [rq_t q', if_pos f.e0]
    have s1 := tr_s hL h
    rw [← g2] at s1
    have ec : N 64 1 - 1 = M 29 3 - 1 := by rw [hnc', hnc]
    have l3 : M 29 3 - 1 ≤ 9999 := by
      rw [hnc]
      rcases (show nc = 0 ∨ nc = 1 ∨ nc = 2 ∨ nc = 3 ∨ nc = 4 by omega) with rfl | rfl | rfl | rfl | rfl <;> decide
    have A : SV x L 0 (M 29 3 - 1) (szA x L (M 29 3) t) (pz2 x L N t') (pz3 x L N t') (stepT x L t).2.1 := by
      unfold pz3; rw [ec]; exact sv_n hL s1.1 l3
    have B : SV x L 0 999 (szB x L (M 29 3) t) (pz3 x L N t') (pz4 x L N t') _ := sv_x hL A (fun _ => by decide) (fun _ => ⟨rfl, rfl⟩)
    have C : SV x L (pz3 x L N t').2.2.2.2.1 999 (szC x L (M 29 3) t) (pz4 x L N t') (pz5 x L N t') _ := sv_x hL B (fun _ => by decide) (fun z => by
      rcases B with ⟨w, -⟩ | ⟨-, -, w1, -⟩
      · exact absurd w z
      · exact ⟨w1, rfl⟩)
    have D : SV x L 1 14 (szD x L (M 29 3) t) (pz5 x L N t') (pz6 x L N t') _ := sv_x hL C (fun _ => by decide) (fun _ => ⟨rfl, rfl⟩)
    have E : SV x L 0 9999 (szE x L (M 29 3) t) (pz6 x L N t') (pz7 x L N t') _ := sv_x hL D (fun _ => by decide) (fun _ => ⟨rfl, rfl⟩)
    rw [if_neg q]
    rcases E with ⟨c1, c2⟩ | ⟨c1, c2, c3, -, -, -, c7⟩
    · rw [if_pos c1, if_neg c2.1]
      exact ss_f c2
    · have d1 : ¬ (szD x L (M 29 3) t).1 = -1 := nx_ok (a := szD x L (M 29 3) t) (f := numT x L 0 9999) c1
      have k1 : ¬ (szC x L (M 29 3) t).1 = -1 := nx_ok (a := szC x L (M 29 3) t) (f := numT x L 1 14) d1
      have b1 : ¬ (szB x L (M 29 3) t).1 = -1 := nx_ok (a := szB x L (M 29 3) t) (f := numT x L (szB x L (M 29 3) t).1 999) k1
      have a1 : ¬ (szA x L (M 29 3) t).1 = -1 := nx_ok (a := szA x L (M 29 3) t) (f := numT x L 0 999) b1
      rcases D with ⟨w, -⟩ | ⟨-, -, d3, -⟩
      · exact absurd w d1
      rcases C with ⟨w, -⟩ | ⟨-, -, k3, -⟩
      · exact absurd w k1
      rcases B with ⟨w, -⟩ | ⟨-, -, b3, -⟩
      · exact absurd w b1
      rcases A with ⟨w, -⟩ | ⟨-, -, a3, -⟩
      · exact absurd w a1
      have g0 := (tr_f hL c2).e0
      rw [if_neg c1, if_pos g0, hnz, hnz', nI_clamp (by omega), ← a3, ← b3, ← k3, ← d3, ← c3]
      have n12 : nz < 12 := by
        refine Nat.lt_of_le_of_ne h12 (fun e => q ?_)
        rw [hnz, e]; decide
      refine ss_t kp_Z c2 ⟨nc, ns, nz + 1, tt, ?_, ?_⟩ ?_
      · rw [sD_Z]; exact sm_addSeason hS n12 _ _ _ _ _
      · rw [sD_Z]; exact hI
      · have := f.sl
        have := s1.2
        omega
end Sim3
theorem sm_tod {A B : Nat → Nat → Int32} {nc ns nz nb nr t : Nat} (h : Same A B nc ns nz nb nr t) {k : Nat} (hk : k ≤ 999) : Same (updM A 1 (upd (A 1) 5 (nI k))) (w64 B 0 (nI k)) nc ns nz nb nr k := by
  obtain ⟨⟨a1, a2, a3, a4, a5, a6, a7, a8, a9, a10, -, -⟩, ⟨b1, b2, b3, b4, b5, b6, b7, b8, b9, b10, -, -⟩, ⟨r3, r4, r5⟩, ⟨r7, r8⟩, ⟨r10, r11, r12, r13, r14⟩, ⟨r16, r17, r18, r19, r20, r21⟩, ⟨r23, r24, r25, r26, r27⟩⟩ := h
  exact ⟨⟨a1, a2, a3, a4, a5, a6, a7, a8, a9, a10, rfl, hk⟩, ⟨b1, b2, b3, b4, b5, b6, b7, b8, b9, b10, rfl, hk⟩, ⟨rw_kp r3 rfl (vw_0_3 (by decide)), rw_kp r4 rfl (vw_0_4 (by decide)), rw_kp r5 rfl (vw_0_5 (by decide))⟩, ⟨rw_kp r7 rfl (vw_0_7 (by decide)), rw_kp r8 rfl (vw_0_8 (by decide))⟩, ⟨rw_kp r10 rfl (vw_0_10 (by decide)), rw_kp r11 rfl (vw_0_11 (by decide)), rw_kp r12 rfl (vw_0_12 (by decide)), rw_kp r13 rfl (vw_0_13 (by decide)), rw_kp r14 rfl (vw_0_14 (by decide))⟩, ⟨rw_kp r16 rfl (vw_0_16 (by decide)), rw_kp r17 rfl (vw_0_17 (by decide)), rw_kp r18 rfl (vw_0_18 (by decide)), rw_kp r19 rfl (vw_0_19 (by decide)), rw_kp r20 rfl (vw_0_20 (by decide)), rw_kp r21 rfl (vw_0_21 (by decide))⟩, ⟨rw_kp r23 rfl (vw_0_23 (by decide)), rw_kp r24 rfl (vw_0_24 (by decide)), rw_kp r25 rfl (vw_0_25 (by decide)), rw_kp r26 rfl (vw_0_26 (by decide)), rw_kp r27 rfl (vw_0_27 (by decide))⟩⟩
theorem inv_00 {A : Nat → Nat → Int32} {nc ns t k : Nat} (h : Inv A nc ns 0 0 t) : Inv A nc ns 0 0 k := ⟨h.1, fun j hj => absurd hj (Nat.not_lt_zero j), fun j k hj => absurd hj (Nat.not_lt_zero j), fun _ _ _ _ => Nat.zero_le _, fun j hj => absurd hj (Nat.not_lt_zero j)⟩
theorem sD_T {M : Nat → Nat → Int32} {v : Int32} : sD (updM M 28 (upd (M 28) 5 v)) = updM (sD M) 1 (upd (sD M 1) 5 v) := by
  funext i; simp [sD, updM]
section Sim4
variable {x y : Nat → Int32} {L : Nat} {M N : Nat → Nat → Int32} {t : RT} {t' : RV}
theorem s_dy (hL : L ≤ 500) (hb : ∀ k, k < L → byt (x k) (y k)) (hx : M 61 = x) (hy : N 70 = y) (h : TR x L t t') (hd : DX M N) (hw : isWV t' 3 = true) : SS x L M (dyT M L t) (pdV L N t') t.2.1 := by
  obtain ⟨nc, ns, nz, tt, hS, hI⟩ := hd
  have f := tr_f hL h
  have g2 : pd2 y L t' = stpV x L t' := by unfold pd2; rw [advV_cg hb, rq_t hw]; unfold advV; rw [if_pos f.e0]
  have g3 : pd3 y L t' = pnV x L 0 999 (stpV x L t') := by unfold pd3; rw [pnV_cg hb, g2]
  have s1 := tr_s hL h
  have A := sv_n hL s1.1 (lo := 0) (hi := 999) (by decide)
  unfold dyT pdV
  rw [hx, hy, g2, g3]
  rcases A with ⟨a1, a2⟩ | ⟨a1, a2, a3, ⟨k, hk, ak⟩, a5, a6, a7⟩
  · rw [if_pos a1]
    exact ss_f a2
  · have g0 := (tr_f hL a2).e0
    rw [if_neg a1, if_pos g0, ← a3, ak]
    have hk9 : k ≤ 999 := by rw [ak] at a6; exact (nI_leI (b := 999) (by omega) (by decide)).mp a6
    refine ss_t (fun i hi => updM_n (by omega)) a2 ⟨nc, ns, nz, k, ?_, ?_⟩ ?_
    · rw [sD_T]; exact sm_tod hS hk9
    · rw [sD_T]; exact inv_00 hI
    · have := f.sl
      have := s1.2
      omega
end Sim4
