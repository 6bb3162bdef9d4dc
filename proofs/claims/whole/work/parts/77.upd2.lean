section Ups2
variable {A B : Nat → Nat → Int32} {nc ns nz nb nr t : Nat}
theorem s_giv (h : Same A B nc ns nz nb nr t) {k : Nat} (hk : k < nb) (s : Int32) : givM A (A 16 k) s = inR B k s := by
  unfold givM inR
  rw [(s_ns h).1, (s_nb h).1, (s_ns h).2, (s_nb h).2, s_vac h, h.2.2.2.2.2.1.1 k hk]
theorem s_vai (h : Same A B nc ns nz nb nr t) {s : Int32} {k : Nat} (hk : k < ns) (e : s.toNatClampNeg = k) : (¬ A 1 5 < A 8 s.toNatClampNeg ∧ anyB (sbB (A 20) (A 21) s) nb = false) ↔ vaV B nb s s.toNatClampNeg = true := by
  rw [e]; exact s_va h s hk
theorem u_checkIn (h : Same A B nc ns nz nb nr t) (hi : Inv A nc ns nb nr t) (x s : Int32) : cd_checkIn A x s = cr_checkIn B x s ∧ (cr_checkIn B x s = 0 → givM A (A 16 x.toNatClampNeg) s = inR B x.toNatClampNeg s ∧ St (ciM A x.toNatClampNeg (givM A (A 16 x.toNatClampNeg) s)) (w64 (w64 B (112 + 6 * x.toNatClampNeg + 4) 1) (112 + 6 * x.toNatClampNeg + 5) (inR B x.toNatClampNeg s))) := by
  have hl := h.1.2.2.2.2.2.2.2.1
  have hsl := h.1.2.2.2.1
  have ht := h.1.2.2.2.2.2.2.2.2.2.2
  have hr := h.2.2.2.2.2.1
  have i1 : ((x < 0 ∨ A 15 6 ≤ x) ∨ (¬ s = -1 ∧ (s < 0 ∨ A 6 2 ≤ s))) ↔ ¬ ((0 ≤ x ∧ x ≤ B 64 4 - 1) ∧ (s = -1 ∨ (0 ≤ s ∧ s ≤ B 64 2 - 1))) := by
    rw [k_bkg h, k_sit h]
    refine ⟨fun q r => q.elim (fun q => q r.1) (fun q => r.2.elim q.1 q.2), fun q => ?_⟩
    by_cases p : 0 ≤ x ∧ x ≤ B 64 4 - 1
    · exact Or.inr ⟨fun r => q ⟨p, Or.inl r⟩, fun r => q ⟨p, Or.inr r⟩⟩
    · exact Or.inl p
  have site : ∀ {k : Nat}, k < nb → (s = -1 ∨ (0 ≤ s ∧ s ≤ B 64 2 - 1)) → ¬ givM A (A 16 k) s = -1 → ∃ j, j < ns ∧ givM A (A 16 k) s = nI j ∧ ((s = -1 ∨ A 7 s.toNatClampNeg = A 16 k) → A 7 j = A 16 k) := by
    intro k hk hz hg
    by_cases s1 : s = -1
    · have e : givM A (A 16 k) s = fstN (fun k2 => decide (A 7 k2 = A 16 k ∧ (¬ A 1 5 < A 8 k2 ∧ anyB (sbB (A 20) (A 21) (nI k2)) (nbM A) = false))) (nsM A) := by unfold givM; rw [if_pos s1]
      rw [e] at hg ⊢
      obtain ⟨j, hj, ej, hp⟩ := (fst_in _ _).resolve_left hg
      rw [(s_ns h).2] at hj
      exact ⟨j, hj, ej, fun _ => (of_decide_eq_true hp).1⟩
    · have e : givM A (A 16 k) s = s := by unfold givM; rw [if_neg s1]
      obtain ⟨j, hj, ej, ej2⟩ := o_sit h (hz.resolve_left s1)
      exact ⟨j, hj, e.trans ej, fun q => by rw [← ej2]; exact q.resolve_left s1⟩
  refine ⟨?_, fun z => ?_⟩
  · unfold cd_checkIn cr_checkIn
    rw [ifo]
    refine ifc i1 rfl (fun z1 => ?_)
    have z1 := Classical.not_not.mp z1
    obtain ⟨k, hk, -, e⟩ := o_bkg h z1.1
    rw [e]
    refine ifc ?_ rfl (fun z2 => ?_)
    · by_cases s1 : s = -1
      · exact ⟨fun q => absurd s1 q.1, fun q => absurd (Or.inl s1) q⟩
      · obtain ⟨j, hj, ej, ej2⟩ := o_sit h (z1.2.resolve_left s1)
        rw [ej2, h.2.2.2.1.1 j hj, hr.1 k hk]
        exact ⟨fun q r => r.elim s1 q.2, fun q => ⟨s1, fun r => q (Or.inr r)⟩⟩
    · rw [ifo, ifo]
      refine ifc ?_ rfl (fun _ => rfl)
      rw [hr.2.2.2.2.1 k hk, hr.2.1 k hk, s_t h, (s_nb h).1, (s_nb h).2]
      have eg := s_giv h hk s
      by_cases g1 : givM A (A 16 k) s = -1
      · have g2 : inR B k s = -1 := eg ▸ g1
        exact ⟨fun _ r => r.2.2.1 g2, fun _ => Or.inr (Or.inl g1)⟩
      · obtain ⟨j, hj, ej, -⟩ := site hk z1.2 g1
        have hva := s_vai h hj (s := givM A (A 16 k) s) (cl_of ej (by omega))
        rw [s_t h, eg] at hva
        rw [eg] at g1 ⊢
        rw [hva]
        constructor
        · intro q r
          rcases q with (q | q) | (q | q)
          · exact q r.1
          · exact q r.2.1
          · exact g1 q
          · exact q r.2.2.2
        · intro q
          by_cases p1 : V B 20 k = 0
          · by_cases p2 : V B 17 k = B 64 0
            · exact Or.inr (Or.inr (fun r => q ⟨p1, p2, g1, r⟩))
            · exact Or.inl (Or.inr p2)
          · exact Or.inl (Or.inl p1)
  · obtain ⟨z1, z2⟩ := if0 (by decide) z
    obtain ⟨z3, z4⟩ := if0 (by decide) z2
    have z1 := Classical.not_not.mp z1
    have z3 := Classical.not_not.mp z3
    have z5 := Classical.not_not.mp (if0 (by decide) z4).1
    obtain ⟨k, hk, -, e⟩ := o_bkg h z1.1
    rw [e] at z3 z5 ⊢
    have eg := s_giv h hk s
    rw [(s_nb h).1] at z5
    have g1 : ¬ givM A (A 16 k) s = -1 := by rw [eg]; exact z5.2.2.1
    obtain ⟨j, hj, ej, hcl⟩ := site hk z1.2 g1
    have hva := (s_vai h hj (s := givM A (A 16 k) s) (cl_of ej (by omega))).mpr (by rw [eg]; exact z5.2.2.2)
    rw [cl_of ej (by omega), ej] at hva
    refine ⟨eg, nc, ns, nz, nb, nr, t, ?_, ?_⟩
    · unfold ciM
      rw [eg]
      exact sm_20_21 h (by omega) _ _
    · have hcl2 : A 7 j = A 16 k := by
        by_cases s1 : s = -1
        · exact hcl (Or.inl s1)
        · refine hcl (Or.inr ?_)
          have q := z3.resolve_left s1
          obtain ⟨j2, hj2, -, ej2⟩ := o_sit h (z1.2.resolve_left s1)
          rw [ej2] at q ⊢
          rw [h.2.2.2.1.1 j2 hj2, hr.1 k hk]; exact q
      obtain ⟨c, a, d, -, -, ea, ed, had, hd9, -⟩ := hi.2.1 k hk
      have hat : a = t := by
        have := (hr.2.1 k hk).trans (z5.2.1.trans (s_t h).symm)
        rw [ea, ht.1] at this
        exact (nI_eq (by omega) (by omega)).mp this
      exact iv_stay hi rfl rfl rfl rfl rfl rfl rfl rfl hk hj (fun i q => upd_n q) (fun i q => upd_n q) upd_s (by rw [ej]; exact upd_s) (Or.inl ((hr.2.2.2.2.1 k hk).trans z5.1)) hcl2 (by rw [← ht.1]; exact Int32.not_lt.mp hva.1) hva.2 ⟨a, d, ea, ed, by omega, by omega, hd9⟩
end Ups2
