theorem ss_k {x : Nat → Int32} {L s0 s1 : Nat} {M M1 : Nat → Nat → Int32} {r : Bool × (Nat → Nat → Int32) × RT} {r' : (Nat → Nat → Int32) × RV} (hk : KP M M1) (h : SS x L M1 r r' s1) (hs : s0 ≤ s1) : SS x L M r r' s0 := by
  obtain ⟨h1, h2⟩ := h
  refine ⟨fun i hi => (h1 i hi).trans (hk i hi), ?_⟩
  rcases h2 with h2 | ⟨h2, h3, h4, h5⟩
  · exact Or.inl h2
  · exact Or.inr ⟨h2, h3, h4, by omega⟩
section Sim5
variable {x y : Nat → Int32} {L : Nat}
theorem s_si (hL : L ≤ 500) (hb : ∀ k, k < L → byt (x k) (y k)) : ∀ (f : Nat) {M N : Nat → Nat → Int32} {t : RT} {t' : RV} {nc ns nz tt : Nat}, M 61 = x → N 70 = y → TR x L t t' → Same (sD M) N nc ns nz 0 0 tt → Inv (sD M) nc ns 0 0 tt → 17 ≤ f + ns → SS x L M (siT L f M t) (siV L f N t') t.2.1 := by
  intro f
  induction f with
  | zero =>
    intro M N t t' nc ns nz tt hx hy h hS hI h17
    exact absurd hS.1.2.2.2.1 (by omega)
  | succ f ih =>
    intro M N t t' nc ns nz tt hx hy h hS hI h17
    have hnc : M 29 3 = nI nc := hS.1.1
    have hnc' : N 64 1 = nI nc := hS.2.1.1
    have h4 : nc ≤ 4 := hS.1.2.1
    have hns : M 33 2 = nI ns := hS.1.2.2.1
    have hns' : N 64 2 = nI ns := hS.2.1.2.2.1
    have h16 : ns ≤ 16 := hS.1.2.2.2.1
    have F := tr_f hL h
    have ec : N 64 1 - 1 = M 29 3 - 1 := by rw [hnc', hnc]
    have l3 : M 29 3 - 1 ≤ 9999 := by
      rw [hnc]
      rcases (show nc = 0 ∨ nc = 1 ∨ nc = 2 ∨ nc = 3 ∨ nc = 4 by omega) with rfl | rfl | rfl | rfl | rfl <;> decide
    have A := sv_n hL h (lo := 0) l3
    have g2 : ps2 y L N t' = pnV x L 0 (M 29 3 - 1) (ps1 N t') := by unfold ps2; rw [pnV_cg hb, ec]
    unfold siT siV
    rw [hx, hy, g2]
    by_cases q : 16 ≤ M 33 2
    · have q' : ¬ N 64 2 < 16 := by rw [hns', ← hns]; exact Int32.not_lt.mpr q
      rcases A with ⟨a1, a2⟩ | ⟨a1, a2, a3, ⟨k, hk, ak⟩, a5, a6, a7⟩
      · have g1 : ps1 N t' = t' := by
          unfold ps1
          refine rq_t ?_
          by_cases z1 : t'.1 = 3
          · by_cases z2 : 0 ≤ t'.2.2.2.2.1 ∧ t'.2.2.2.2.1 ≤ N 64 1 - 1
            · exfalso
              rw [ec] at z2
              have z3 := F.k2.mpr z1
              have z4 := F.nr z3
              have z5 : ¬ (t.2.2.2.1 < 0 ∨ M 29 3 - 1 < t.2.2.2.1) := fun z => (nr_in z4 l3).mp z z2
              unfold numT at a1
              rw [if_neg (fun z => z z3), if_neg z5] at a1
              have a9 : t.2.2.2.1 = -1 := a1
              exact z5 (Or.inl (by rw [a9]; decide))
            · exact Or.inr (Or.inl z2)
          · exact Or.inl z1
        rw [g1, if_pos a1, if_pos a2.1]
        exact ss_f a2
      · have t2 : t.1 = 2 := by
          refine Classical.not_not.mp (fun z => a1 ?_)
          unfold numT; rw [if_pos z]
        obtain ⟨E, hE⟩ : ∃ E : RV, E = (t'.1, t'.2.1, t'.2.2.1, t'.2.2.2.1, t'.2.2.2.2.1, 3, nI t'.2.1, t'.2.2.2.2.2.2.2) := ⟨_, rfl⟩
        have z : ¬ E.2.2.2.2.2.1 = 0 := by rw [hE]; exact (show ¬ (3 : Int32) = 0 by decide)
        have g1 : ps1 N t' = E := by
          unfold ps1
          rw [rq_f ?_ F.e0, hE]
          rintro (z1 | z1 | z1)
          · exact z1 (F.k2.mp t2)
          · refine z1 ?_
            rw [ec, ← a3]; exact ⟨a5, a6⟩
          · exact q' z1
        rw [g1, pn_e z, if_neg a1, if_pos q, if_pos z, hE]
        exact ss_f (er_fail hL h (by decide))
    · have q' : N 64 2 < 16 := by rw [hns', ← hns]; exact Int32.not_le.mp q
      have g1 : ps1 N t' = t' := by unfold ps1; exact rq_t (Or.inr (Or.inr q'))
      rw [g1]
      rcases A with ⟨a1, a2⟩ | ⟨a1, a2, a3, ⟨k, hk, ak⟩, a5, a6, a7⟩
      · rw [if_pos a1, if_pos a2.1]
        exact ss_f a2
      · have F2 := tr_f hL a2
        have n16 : ns < 16 := by
          refine Nat.lt_of_le_of_ne h16 (fun e => q ?_)
          rw [hns, e]; decide
        have ne : ¬ ¬ (pnV x L 0 (M 29 3 - 1) t').2.2.2.2.2.1 = 0 := fun z => z F2.e0
        rw [if_neg a1, if_neg q, if_neg ne, hns, hns', nI_clamp (by omega), ← a3]
        have hS2 : Same (sD (addS_d M ns (numT x L 0 (M 29 3 - 1) t).1)) (appendSiteM N ns (numT x L 0 (M 29 3 - 1) t).1) nc (ns + 1) nz 0 0 tt := by
          rw [sD_S]; exact sm_addSite hS n16 _
        have hI2 : Inv (sD (addS_d M ns (numT x L 0 (M 29 3 - 1) t).1)) nc (ns + 1) 0 0 tt := by
          rw [sD_S]; exact iv_addSite hI _
        by_cases w : (numT x L 0 (M 29 3 - 1) t).2.1 = 2
        · rw [if_pos w, if_pos (F2.k2.mp w)]
          refine ss_k kp_S (ih ?_ ?_ a2 hS2 hI2 (by omega)) (by omega)
          · rw [kp_S 61 (by omega)]; exact hx
          · rw [apS_keep (by decide)]; exact hy
        · rw [if_neg w, if_neg (fun z => w (F2.k2.mpr z))]
          exact ss_t kp_S a2 ⟨nc, ns + 1, nz, tt, hS2, hI2⟩ a7
end Sim5
