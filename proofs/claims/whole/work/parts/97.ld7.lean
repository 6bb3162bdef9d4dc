theorem pd_keep {M : Nat → Nat → Int32} {L j : Nat} {t : RV} (h : j ≠ 64) : (pdV L M t).1 j = M j := by
  have e : ∃ z, (pdV L M t).1 = w64 M 0 z := ⟨_, rfl⟩
  obtain ⟨z, e⟩ := e
  rw [e]; exact w64_ne h
section Sim6
variable {x y : Nat → Int32} {L : Nat}
/-- the semicolon behind -/
theorem s_sm (hL : L ≤ 500) (hb : ∀ k, k < L → byt (x k) (y k)) {M : Nat → Nat → Int32} {r : Bool × (Nat → Nat → Int32) × RT} {r' : (Nat → Nat → Int32) × RV} {s0 : Nat} (hx : M 61 = x) (hy : r'.1 70 = y) (h : SS x L M r r' s0) : SS x L M (thn L r) (smV L r') s0 := by
  obtain ⟨b, M1, u⟩ := r
  obtain ⟨N1, v⟩ := r'
  obtain ⟨h1, h2⟩ := h
  have hx1 : M1 61 = x := (h1 61 (by omega)).trans hx
  have hy1 : N1 70 = y := hy
  unfold thn smV
  show SS x L M (if b = true then ((smT (M1 61) L u).1, M1, (smT (M1 61) L u).2) else (b, M1, u)) (N1, advV (N1 70) L (rqV (v.1 = 4) 1 v)) s0
  rw [hx1, hy1, advV_cg hb]
  rcases h2 with ⟨rfl, h3⟩ | ⟨rfl, h3, h4, h5⟩
  · have h3' : ER u v := h3
    rw [if_neg (by decide), rq_e h3'.1, ad_e h3'.1]
    exact ⟨h1, Or.inl ⟨rfl, h3'⟩⟩
  · have h3' : TR x L u v := h3
    have F := tr_f hL h3'
    rw [if_pos rfl]
    unfold smT
    by_cases q : u.1 = 3
    · rw [if_pos q, rq_t (F.k3.mp q)]
      unfold advV
      rw [if_pos F.e0]
      have s := tr_s hL h3'
      have h5' : s0 < u.2.1 := h5
      have := F.sl
      exact ⟨h1, Or.inr ⟨rfl, s.1, h4, by show s0 < (stepT x L u).2.1; omega⟩⟩
    · rw [if_neg q, rq_f (fun z => q (F.k3.mpr z)) F.e0]
      obtain ⟨E, hE⟩ : ∃ E : RV, E = (v.1, v.2.1, v.2.2.1, v.2.2.2.1, v.2.2.2.2.1, 1, nI v.2.1, v.2.2.2.2.2.2.2) := ⟨_, rfl⟩
      have z : ¬ E.2.2.2.2.2.1 = 0 := by rw [hE]; exact (show ¬ (1 : Int32) = 0 by decide)
      rw [← hE, ad_e z, hE]
      exact ⟨h1, Or.inl ⟨rfl, er_fail hL h3' (by decide)⟩⟩
theorem s_sta (hL : L ≤ 500) (hb : ∀ k, k < L → byt (x k) (y k)) {M N : Nat → Nat → Int32} {t : RT} {t' : RV} (hx : M 61 = x) (hy : N 70 = y) (h : TR x L t t') (hd : DX M N) : SS x L M (stT M L t) (stV L N t') t.2.1 := by
  have F := tr_f hL h
  unfold stT stV
  rw [hx, F.wd 0 (by decide), F.wd 1 (by decide), F.wd 2 (by decide), F.wd 3 (by decide)]
  by_cases w0 : isWV t' 0 = true
  · rw [if_pos w0, if_pos w0]
    exact s_sm hL hb hx (by rw [pc_keep (by decide)]; exact hy) (s_cl hL hb hx hy h hd)
  · rw [if_neg w0, if_neg w0]
    by_cases w1 : isWV t' 1 = true
    · rw [if_pos w1, if_pos w1]
      refine s_sm hL hb hx (by rw [si_keep (by decide)]; exact hy) ?_
      obtain ⟨nc, ns, nz, tt, hS, hI⟩ := hd
      have s := tr_s hL h
      have e : advV (N 70) L t' = stpV x L t' := by rw [hy, advV_cg hb]; unfold advV; rw [if_pos F.e0]
      rw [e]
      have := F.sl
      exact ss_k (fun _ _ => rfl) (s_si hL hb 17 hx hy s.1 hS hI (by omega)) (by have := s.2; omega)
    · rw [if_neg w1, if_neg w1]
      by_cases w2 : isWV t' 2 = true
      · rw [if_pos w2, if_pos w2]
        exact s_sm hL hb hx (by rw [pz_keep (by decide)]; exact hy) (s_sz hL hb hx hy h hd)
      · rw [if_neg w2, if_neg w2]
        by_cases w3 : isWV t' 3 = true
        · rw [if_pos w3]
          exact s_sm hL hb hx (by rw [pd_keep (by decide)]; exact hy) (s_dy hL hb hx hy h hd w3)
        · rw [if_neg w3]
          obtain ⟨E, hE⟩ : ∃ E : RV, E = (t'.1, t'.2.1, t'.2.2.1, t'.2.2.2.1, t'.2.2.2.2.1, 1, nI t'.2.1, t'.2.2.2.2.2.2.2) := ⟨_, rfl⟩
          have z : ¬ E.2.2.2.2.2.1 = 0 := by rw [hE]; exact (show ¬ (1 : Int32) = 0 by decide)
          have g2 : pd2 (N 70) L t' = E := by unfold pd2; rw [rq_f w3 F.e0, ← hE, ad_e z]
          have g3 : pd3 (N 70) L t' = E := by unfold pd3; rw [g2, pn_e z]
          have g4 : smV L (pdV L N t') = ((pdV L N t').1, E) := by
            obtain ⟨N1, v, e1, e2⟩ : ∃ N1 v, pdV L N t' = (N1, v) ∧ v = E := ⟨_, _, rfl, g3⟩
            rw [e1, e2]
            unfold smV
            rw [rq_e z, ad_e z]
          rw [g4, hE]
          exact ss_f (er_fail hL h (by decide))
end Sim6
