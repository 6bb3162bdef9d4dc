/-! a whole text by both -/
section Sim7
variable {x y : Nat → Int32} {L : Nat}
theorem s_rd (hL : L ≤ 500) (hb : ∀ k, k < L → byt (x k) (y k)) (f : Nat) : ∀ {M N : Nat → Nat → Int32} {t : RT} {t' : RV}, M 61 = x → N 70 = y → TR x L t t' → DX M N → L - t.2.1 ≤ f → ∃ rz, ldN L (f + 1) N t' = some rz ∧ KP M (rdL L f M t).2.2.1 ∧ (((rdL L f M t).1 = false ∧ ER (rdL L f M t).2.2.2 rz.2.2) ∨ ((rdL L f M t).1 = true ∧ (rdL L f M t).2.1 = rz.1 ∧ TR x L (rdL L f M t).2.2.2 rz.2.2 ∧ DX (rdL L f M t).2.2.1 rz.2.1)) := by
  induction f with
  | zero =>
    intro M N t t' hx hy h hd hf
    have F := tr_f hL h
    have k := F.k0.mp (F.z0 (by omega))
    refine ⟨(0, N, t'), ?_, fun _ _ => rfl, Or.inr ⟨rfl, rfl, h, hd⟩⟩
    unfold ldN
    rw [if_neg (fun q => q.2 k)]
  | succ f ih =>
    intro M N t t' hx hy h hd hf
    have F := tr_f hL h
    unfold rdL
    by_cases q : t.1 = 0
    · rw [if_pos q]
      refine ⟨(0, N, t'), ?_, fun _ _ => rfl, Or.inr ⟨rfl, rfl, h, hd⟩⟩
      unfold ldN
      rw [if_neg (fun z => z.2 (F.k0.mp q))]
    · rw [if_neg q]
      have S := s_sta hL hb hx hy h hd
      have k70 : (stV L N t').1 70 = y := (st_keep (by decide)).trans hy
      have un : ldN L (f + 1 + 1) N t' = (ldN L (f + 1) (stV L N t').1 (stV L N t').2).map (fun x => (x.1 + 1, x.2)) := by
        rw [ldN, if_pos ⟨F.e0, fun z => q (F.k0.mpr z)⟩]
      rw [un]
      clear un
      generalize stT M L t = r at S ⊢
      generalize stV L N t' = r' at S k70 ⊢
      obtain ⟨b, M1, u⟩ := r
      obtain ⟨N1, v⟩ := r'
      obtain ⟨h1, h2⟩ := S
      rcases h2 with ⟨h2, h3⟩ | ⟨h2, h3, h4, h5⟩
      · rw [if_neg (fun z => Bool.false_ne_true (h2.symm.trans z))]
        refine ⟨(1, N1, v), ?_, h1, Or.inl ⟨rfl, h3⟩⟩
        have e : ldN L (f + 1) N1 v = some (0, N1, v) := by rw [ldN, if_neg (fun z => h3.1 z.1)]
        show Option.map _ (ldN L (f + 1) N1 v) = _
        rw [e]; rfl
      · rw [if_pos h2]
        obtain ⟨rz, e1, e2, e3⟩ := ih (M := M1) (N := N1) (t := u) (t' := v) ((h1 61 (by omega)).trans hx) k70 h3 h4 (by have : t.2.1 < u.2.1 := h5; omega)
        refine ⟨(rz.1 + 1, rz.2), ?_, fun i hi => (e2 i hi).trans (h1 i hi), ?_⟩
        · show Option.map _ (ldN L (f + 1) N1 v) = _
          rw [e1]; rfl
        · rcases e3 with q1 | ⟨q1, q2, q3, q4⟩
          · exact Or.inl q1
          · exact Or.inr ⟨q1, congrArg (· + 1) q2, q3, q4⟩
end Sim7
