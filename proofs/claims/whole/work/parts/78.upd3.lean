section Ups3
variable {A B : Nat → Nat → Int32} {nc ns nz nb nr t : Nat}
theorem u_move (h : Same A B nc ns nz nb nr t) (hi : Inv A nc ns nb nr t) (x s : Int32) : cd_move A x s = cr_move B x s ∧ (cr_move B x s = 0 → A 21 x.toNatClampNeg = V B 21 x.toNatClampNeg ∧ St (updM A 21 (upd (A 21) x.toNatClampNeg s)) (w64 B (112 + 6 * x.toNatClampNeg + 5) s)) := by
  have hl := h.1.2.2.2.2.2.2.2.1
  have hsl := h.1.2.2.2.1
  have ht := h.1.2.2.2.2.2.2.2.2.2.2
  have hr := h.2.2.2.2.2.1
  refine ⟨?_, fun z => ?_⟩
  · unfold cd_move cr_move
    rw [ifo]
    refine ifc (by rw [k_bkg h, k_sit h]; exact Classical.not_and_iff_not_or_not.symm) rfl (fun z1 => ?_)
    have z1 := Classical.not_not.mp z1
    obtain ⟨k, hk, -, e⟩ := o_bkg h z1.1
    obtain ⟨j, hj, ej, ej2⟩ := o_sit h z1.2
    rw [ifo, e]
    have hva := s_va h s hj
    rw [(s_nb h).1, (s_nb h).2, ej2, h.2.2.2.1.1 j hj, hr.1 k hk, hr.2.2.2.2.1 k hk]
    exact ifc Iff.rfl rfl (fun _ => ifc (by rw [hva]; exact Classical.not_and_iff_not_or_not.symm) rfl (fun _ => rfl))
  · obtain ⟨z1, z2⟩ := if0 (by decide) z
    obtain ⟨z3, z4⟩ := if0 (by decide) z2
    have z1 := Classical.not_not.mp z1
    have z3 := Classical.not_not.mp z3
    have z5 := Classical.not_not.mp (if0 (by decide) z4).1
    obtain ⟨k, hk, -, e⟩ := o_bkg h z1.1
    obtain ⟨j, hj, ej, ej2⟩ := o_sit h z1.2
    rw [e] at z3 z5 ⊢
    have hva := (s_vai h hj (s := s) ej2).mpr (by rw [← (s_nb h).1]; exact z5.2)
    rw [ej2, ej] at hva
    rw [ej2] at z3
    have h20 : A 20 k = 1 := (hr.2.2.2.2.1 k hk).trans z5.1
    obtain ⟨c, a, d, -, -, ea, ed, had, hd9, -, hst⟩ := hi.2.1 k hk
    obtain ⟨g1, g2, -⟩ := hst h20
    refine ⟨hr.2.2.2.2.2 k hk, nc, ns, nz, nb, nr, t, sm_21 h (by omega) s, ?_⟩
    exact iv_stay hi rfl rfl rfl rfl rfl rfl rfl rfl hk hj (fun i q => rfl) (fun i q => upd_n q) h20 (by rw [ej]; exact upd_s) (Or.inr h20) (by rw [h.2.2.2.1.1 j hj, hr.1 k hk]; exact z3) (by rw [← ht.1]; exact Int32.not_lt.mp hva.1) hva.2 ⟨a, d, ea, ed, g1, g2, hd9⟩
theorem u_departEarly (h : Same A B nc ns nz nb nr t) (hi : Inv A nc ns nb nr t) (x : Int32) : cd_departEarly A x = cr_departEarly B x ∧ (cr_departEarly B x = 0 → rdM A x.toNatClampNeg = deR B x.toNatClampNeg ∧ St (dpM A x.toNatClampNeg) (w64 (w64 (w64 B (112 + 6 * x.toNatClampNeg + 2) (if V B 17 x.toNatClampNeg = B 64 0 then B 64 0 + 1 else B 64 0)) (112 + 6 * x.toNatClampNeg + 3) (V B 19 x.toNatClampNeg - (deR B x.toNatClampNeg))) (112 + 6 * x.toNatClampNeg + 4) 2)) := by
  have hl := h.1.2.2.2.2.2.2.2.1
  have ht := h.1.2.2.2.2.2.2.2.2.2.2
  have hr := h.2.2.2.2.2.1
  refine ⟨ifc (k_bkg h x) rfl (fun z => ?_), fun z => ?_⟩
  · obtain ⟨k, hk, -, e⟩ := o_bkg h (Classical.not_not.mp z)
    rw [e, hr.2.2.2.2.1 k hk]
  · obtain ⟨z1, z2⟩ := if0 (by decide) z
    obtain ⟨k, hk, -, e⟩ := o_bkg h (Classical.not_not.mp z1)
    have z3 := Classical.not_not.mp (if0 (by decide) z2).1
    rw [e] at z3 ⊢
    have h20 : A 20 k = 1 := (hr.2.2.2.2.1 k hk).trans z3
    obtain ⟨c, a, d, -, -, ea, ed, had, hd9, -, hst⟩ := hi.2.1 k hk
    obtain ⟨g1, g2, -⟩ := hst h20
    have e1 : rdM A k = deR B k := by
      unfold rdM deR haR
      rw [(s_nz2 h).1, (s_nz2 h).2, (s_tM h).1, (s_tM h).2, hr.1 k hk, hr.2.2.1 k hk, hr.2.2.2.1 k hk]
      have e2 : prM A nz (V B 16 k) = fun d => sval (seasN (V B 10) (V B 11) (V B 12) (V B 16 k) d nz) (V B 14) 20 := funext (fun d => s_pr h _ d)
      rw [e2]
    have e3 : (if A 1 5 < A 17 k + 1 then A 17 k + 1 else A 1 5) = nI (if a = t then t + 1 else t) := by
      rw [ea, ht.1, nI_1]
      by_cases q : a = t
      · subst q; rw [if_pos rfl, if_pos ((lt_nI (by omega) (by omega)).mpr (by omega))]
      · rw [if_neg q, if_neg (fun r => absurd ((lt_nI (by omega) (by omega)).mp r) (by omega))]
    have e4 : (if V B 17 k = B 64 0 then B 64 0 + 1 else B 64 0) = nI (if a = t then t + 1 else t) := by
      rw [← hr.2.1 k hk, ← s_t h, ea, ht.1, nI_1]
      by_cases q : a = t
      · subst q; rw [if_pos rfl, if_pos rfl]
      · rw [if_neg (fun r => q ((nI_eq (by omega) (by omega)).mp r)), if_neg q]
    refine ⟨e1, nc, ns, nz, nb, nr, t, ?_, ?_⟩
    · unfold dpM
      rw [e1, e3, e4, hr.2.2.2.1 k hk]
      exact sm_dep h (by omega) _ _ _
    · unfold dpM
      rw [e3]
      exact iv_depart hi hk _ ea (by split <;> omega) (by split <;> omega)
theorem u_close (h : Same A B nc ns nz nb nr t) (hi : Inv A nc ns nb nr t) (x u : Int32) : cd_close A x u = cr_close B x u ∧ (cr_close B x u = 0 → St (updM A 8 (upd (A 8) x.toNatClampNeg u)) (w64 B (20 + 2 * x.toNatClampNeg + 1) u)) := by
  have hl := h.1.2.2.2.2.2.2.2.1
  have hsl := h.1.2.2.2.1
  have ht := h.1.2.2.2.2.2.2.2.2.2.2
  have hsp : ∀ c, (fun i => decide ((nI (cnt (tkB (A 16) (A 17) (A 18) (A 20) c (nI i)) nb)) < (capF (A 1 5) (nI (cnt (opB (A 7) (A 8) c (nI i)) ns)) (nI i)))) = spV B ns nb c := by
    intro c; funext i; unfold spV; rw [s_tk h, s_cap h]
  refine ⟨ifc (k_sit h x) rfl (fun z1 => ?_), fun z => ?_⟩
  · obtain ⟨k, hk, ek, e⟩ := o_sit h (Classical.not_not.mp z1)
    rw [ifo, s_t h]
    refine ifc (k_rg _ _ _) rfl (fun _ => ifc ?_ rfl (fun _ => rfl))
    have hva := s_vai h hk (s := x) e
    rw [s_t h] at hva
    unfold spM
    rw [(s_nb h).1, (s_ns h).1, (s_nb h).2, (s_ns h).2, (s_tM h).1, (s_tM h).2, hva, hsp, e, h.2.2.2.1.1 k hk]
    exact Classical.not_and_iff_not_or_not.symm
  · obtain ⟨z1, z2⟩ := if0 (by decide) z
    obtain ⟨z3, z4⟩ := if0 (by decide) z2
    have z3 := Classical.not_not.mp z3
    have z5 := Classical.not_not.mp (if0 (by decide) z4).1
    obtain ⟨k, hk, ek, e⟩ := o_sit h (Classical.not_not.mp z1)
    rw [← s_t h, ht.1, nI_1] at z3
    obtain ⟨v, hv1, hv2, ev⟩ := rng_of rfl (by omega) (show (999 : Int32) = nI 999 from rfl) (by decide) z3
    have hva := (s_vai h hk (s := x) e).mpr (by rw [← (s_nb h).1]; exact z5.1)
    rw [e, ek] at hva
    have z6 := z5.2
    rw [(s_nb h).1, (s_ns h).1, (s_tM h).2, e, cl_of ev (by omega), ← h.2.2.2.1.1 k hk, ← hsp] at z6
    rw [e]
    refine ⟨nc, ns, nz, nb, nr, t, sm_8 h (by omega) u, ?_⟩
    rw [ev]
    refine iv_close hi hk hv2 (by rw [← ht.1]; exact Int32.not_lt.mp hva.1) hva.2 (fun d hd1 hd2 => ?_) ht.2
    have q := of_decide_eq_true (all_t z6 (i := d - t) (by omega))
    rw [show t + (d - t) = d by omega] at q
    unfold capF at q
    rw [ht.1, if_neg (fun r => r.elim (fun r => absurd ((lt_nI (by omega) (by omega)).mp r) (by omega)) (fun r => absurd ((lt_nI (a := 998) (by decide) (by omega)).mp r) (by omega)))] at q
    exact (lt_nI (Nat.lt_of_le_of_lt (Nat.le_trans (cnt_le _ _) hl) (by decide)) (Nat.lt_of_le_of_lt (Nat.le_trans (cnt_le _ _) hsl) (by decide))).mp q
end Ups3
