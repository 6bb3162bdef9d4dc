/-! the statements -/
def sD (M : Nat → Nat → Int32) : Nat → Nat → Int32 := fun i => M (i + 27)
def DX (M N : Nat → Nat → Int32) : Prop := ∃ nc ns nz t, Same (sD M) N nc ns nz 0 0 t ∧ Inv (sD M) nc ns 0 0 t
def KP (M M' : Nat → Nat → Int32) : Prop := ∀ i, (i < 28 ∨ 55 ≤ i) → M' i = M i
theorem sD_C {M : Nat → Nat → Int32} {k : Nat} {w s q : Int32} : sD (addC_d M k w s q) = addC (sD M) k w s q := by
  funext i; simp [sD, addC_d, addC, updM]
theorem sD_S {M : Nat → Nat → Int32} {k : Nat} {c : Int32} : sD (addS_d M k c) = addS (sD M) k c := by
  funext i; simp [sD, addS_d, addS, updM]
theorem sD_Z {M : Nat → Nat → Int32} {k : Nat} {c f l m p : Int32} : sD (addZ_d M k c f l m p) = addZ (sD M) k c f l m p := by
  funext i; simp [sD, addZ_d, addZ, updM]
theorem kp_C {M : Nat → Nat → Int32} {k : Nat} {w s q : Int32} : KP M (addC_d M k w s q) := fun i hi => by
  unfold addC_d; rw [updM_n (by omega), updM_n (by omega), updM_n (by omega), updM_n (by omega)]
theorem kp_S {M : Nat → Nat → Int32} {k : Nat} {c : Int32} : KP M (addS_d M k c) := fun i hi => by
  unfold addS_d; rw [updM_n (by omega), updM_n (by omega), updM_n (by omega)]
theorem kp_Z {M : Nat → Nat → Int32} {k : Nat} {c f l m p : Int32} : KP M (addZ_d M k c f l m p) := fun i hi => by
  unfold addZ_d; rw [updM_n (by omega), updM_n (by omega), updM_n (by omega), updM_n (by omega), updM_n (by omega), updM_n (by omega)]
theorem nx_ok {a : Int32 × RT} {f : RT → Int32 × RT} (h : ¬ (nxt a f).1 = -1) : ¬ a.1 = -1 := fun q => h (by unfold nxt; rw [if_pos q])
/-- a statement by both: s0 where it began -/
def SS (x : Nat → Int32) (L : Nat) (M : Nat → Nat → Int32) (r : Bool × (Nat → Nat → Int32) × RT) (r' : (Nat → Nat → Int32) × RV) (s0 : Nat) : Prop := KP M r.2.1 ∧ ((r.1 = false ∧ ER r.2.2 r'.2) ∨ (r.1 = true ∧ TR x L r.2.2 r'.2 ∧ DX r.2.1 r'.1 ∧ s0 < r.2.2.2.1))
theorem ss_f {x : Nat → Int32} {L s0 : Nat} {M N : Nat → Nat → Int32} {u : RT} {v : RV} (h : ER u v) : SS x L M (false, M, u) (N, v) s0 := ⟨fun _ _ => rfl, Or.inl ⟨rfl, h⟩⟩
theorem ss_t {x : Nat → Int32} {L s0 : Nat} {M M' N' : Nat → Nat → Int32} {u : RT} {v : RV} (hk : KP M M') (h : TR x L u v) (hd : DX M' N') (hs : s0 < u.2.1) : SS x L M (true, M', u) (N', v) s0 := ⟨hk, Or.inr ⟨rfl, h, hd, hs⟩⟩
section Sim2
variable {x y : Nat → Int32} {L : Nat} {M N : Nat → Nat → Int32} {t : RT} {t' : RV}
theorem s_cl (hL : L ≤ 500) (hb : ∀ k, k < L → byt (x k) (y k)) (hx : M 61 = x) (hy : N 70 = y) (h : TR x L t t') (hd : DX M N) : SS x L M (clT M L t) (pcV L N t') t.2.1 := by
  obtain ⟨nc, ns, nz, tt, hS, hI⟩ := hd
  have hnc : M 29 3 = nI nc := hS.1.1
  have hnc' : N 64 1 = nI nc := hS.2.1.1
  have h4 : nc ≤ 4 := hS.1.2.1
  have f := tr_f hL h
  have e2 : pc2 y L N t' = pc2 x L N t' := advV_cg hb _
  have e3 : pc3 y L N t' = pc3 x L N t' := by unfold pc3; rw [pnV_cg hb, e2]
  have e4 : pc4 y L N t' = pc4 x L N t' := by unfold pc4; rw [pnV_cg hb, e2, e3]
  have e5 : pc5 y L N t' = pc5 x L N t' := by unfold pc5; rw [pnV_cg hb, e4]
  unfold clT pcV
  rw [hx, hy, e2, e3, e4, e5]
  by_cases q : 4 ≤ M 29 3
  · have q' : ¬ N 64 1 < 4 := by rw [hnc', ← hnc]; exact Int32.not_lt.mpr q
    obtain ⟨E, hE⟩ : ∃ E : RV, E = (t'.1, t'.2.1, t'.2.2.1, t'.2.2.2.1, t'.2.2.2.2.1, 3, nI t'.2.1, t'.2.2.2.2.2.2.2) := ⟨_, rfl⟩
    have z : ¬ E.2.2.2.2.2.1 = 0 := by rw [hE]; exact (show ¬ (3 : Int32) = 0 by decide)
    have g2 : pc2 x L N t' = E := by
      unfold pc2; rw [rq_f q' f.e0, ← hE, ad_e z]
    have g5 : pc5 x L N t' = E := by
      unfold pc5 pc4 pc3; rw [g2, pn_e z, pn_e z, pn_e z]
    rw [if_pos q, g5, if_neg z, hE]
    exact ss_f (er_fail hL h (by decide))
  · have q' : N 64 1 < 4 := by rw [hnc', ← hnc]; exact Int32.not_le.mp q
    have g2 : pc2 x L N t' = stpV x L t' := by unfold pc2 advV; rw [rq_t q', if_pos f.e0]
    have s1 := tr_s hL h
    rw [← g2] at s1
    have A : SV x L 1 200 (clA x L t) (pc2 x L N t') (pc3 x L N t') _ := sv_n hL s1.1 (by decide)
    have B : SV x L 0 (pc2 x L N t').2.2.2.2.1 (clB x L t) (pc3 x L N t') (pc4 x L N t') _ := sv_x hL A (fun z => by
      rcases A with ⟨w, -⟩ | ⟨-, -, w1, -, -, w2, -⟩
      · exact absurd w z
      · rw [← w1]; exact Int32.le_trans w2 (by decide)) (fun z => by
      rcases A with ⟨w, -⟩ | ⟨-, -, w1, -⟩
      · exact absurd w z
      · exact ⟨rfl, w1⟩)
    have C : SV x L 0 16 (clC x L t) (pc4 x L N t') (pc5 x L N t') _ := sv_x hL B (fun _ => by decide) (fun _ => ⟨rfl, rfl⟩)
    rw [if_neg q]
    rcases C with ⟨c1, c2⟩ | ⟨c1, c2, c3, ⟨k, hk, ck⟩, -, -, c7⟩
    · rw [if_pos c1, if_neg c2.1]
      exact ss_f c2
    · have b1 : ¬ (clB x L t).1 = -1 := nx_ok (a := clB x L t) (f := numT x L 0 16) c1
      have a1 : ¬ (clA x L t).1 = -1 := nx_ok (a := clA x L t) (f := numT x L 0 (clA x L t).1) b1
      rcases B with ⟨w, -⟩ | ⟨-, -, b3, -⟩
      · exact absurd w b1
      rcases A with ⟨w, -⟩ | ⟨-, -, a3, -⟩
      · exact absurd w a1
      have g0 := (tr_f hL c2).e0
      rw [if_neg c1, if_pos g0, hnc, hnc', nI_clamp (by omega), ← a3, ← b3, ← c3]
      have n4 : nc < 4 := by
        refine Nat.lt_of_le_of_ne h4 (fun e => q ?_)
        rw [hnc, e]; decide
      refine ss_t kp_C c2 ⟨nc + 1, ns, nz, tt, ?_, ?_⟩ ?_
      · rw [sD_C]; exact sm_addClass hS n4 _ _ _
      · rw [sD_C]; exact iv_addClass hI _ _ _ (by rw [ck]; exact nI_le (a := 0) (Nat.zero_le _) (by omega))
      · have := f.sl
        have := s1.2
        omega
end Sim2
