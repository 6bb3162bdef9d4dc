/-! load by both -/
theorem dx_0 {M N : Nat → Nat → Int32} (hN : ∀ p, p < 572 → N 64 p = 0) : DX (clrD M) N := by
  refine ⟨0, 0, 0, 0, ⟨⟨rfl, by decide, rfl, by decide, rfl, by decide, rfl, by decide, rfl, by decide, rfl, by decide⟩, ⟨hN 1 (by decide), by decide, hN 2 (by decide), by decide, hN 3 (by decide), by decide, hN 4 (by decide), by decide, hN 5 (by decide), by decide, hN 0 (by decide), by decide⟩, ⟨?_, ?_, ?_⟩, ⟨?_, ?_⟩, ⟨?_, ?_, ?_, ?_, ?_⟩, ⟨?_, ?_, ?_, ?_, ?_, ?_⟩, ⟨?_, ?_, ?_, ?_, ?_⟩⟩, ?_⟩
  all_goals first
    | exact fun j hj => absurd hj (Nat.not_lt_zero j)
    | exact ⟨fun j hj => absurd hj (Nat.not_lt_zero j), fun j hj => absurd hj (Nat.not_lt_zero j), fun j k hj => absurd hj (Nat.not_lt_zero j), fun _ _ _ _ => Nat.zero_le _, fun j hj => absurd hj (Nat.not_lt_zero j)⟩
def QLd (M : Nat → Nat → Int32) (L s0 : Nat) (k : Nat) (R : Nat → Int32) (t : RV) : Prop := ((ldR M L s0).1 = false ∧ ER (ldR M L s0).2.2.2 t) ∨ ((ldR M L s0).1 = true ∧ (ldR M L s0).2.1 = k ∧ TR (M 61) L (ldR M L s0).2.2.2 t ∧ ∃ N1 : Nat → Nat → Int32, N1 64 = R ∧ DX (ldR M L s0).2.2.1 N1)
theorem s_ld {M : Nat → Nat → Int32} {L s0 : Nat} (hL : L ≤ 500) (hb : ∀ k, k < 500 → byt (M 61 k) (M 70 k)) {N : Nat → Nat → Int32} (h70 : N 70 = M 70) (hN : ∀ p, p < 572 → N 64 p = 0) : KP (clrD M) (ldR M L s0).2.2.1 ∧ ∃ rz, ldN L 501 N (stpV (M 70) L (0, 0, 0, 0, 0, 0, -1, 0)) = some rz ∧ QLd M L s0 rz.1 (rz.2.1 64) rz.2.2 := by
  have hb' : ∀ k, k < L → byt (M 61 k) (M 70 k) := fun k hk => hb k (by omega)
  have h : TR (M 61) L (stepT (M 61) L (M 62 3, s0, 0, M 62 6, 0, -1)) (stpV (M 70) L (0, 0, 0, 0, 0, 0, -1, 0)) := by
    rw [stpV_cg hb']
    exact ⟨run (pB (M 61)) L 0, _, _, (run_le (Nat.zero_le _)).2, rfl, rfl, rfl, rfl, rfl⟩
  have k61 : clrD M 61 = M 61 := by
    unfold clrD
    rw [updM_n (by decide), updM_n (by decide), updM_n (by decide), updM_n (by decide), updM_n (by decide), updM_n (by decide)]
  obtain ⟨rz, e1, e2, e3⟩ := s_rd hL hb' 500 k61 h70 h (dx_0 (M := M) hN) (by omega)
  refine ⟨e2, rz, e1, ?_⟩
  rcases e3 with q | ⟨q1, q2, q3, q4⟩
  · exact Or.inl q
  · exact Or.inr ⟨q1, q2, q3, rz.2.1, rfl, q4⟩
theorem kp_clr {M : Nat → Nat → Int32} : KP M (clrD M) := fun i hi => by
  unfold clrD
  rw [updM_n (by omega), updM_n (by omega), updM_n (by omega), updM_n (by omega), updM_n (by omega), updM_n (by omega)]
section LdR
variable {G : AG} {M : Nat → Nat → Int32} {L s0 n : Nat}
theorem kp_ld (hL : L ≤ 500) (hb : ∀ k, k < 500 → byt (M 61 k) (M 70 k)) : KP M (ldR M L s0).2.2.1 := fun i hi => by
  have h := (s_ld (s0 := s0) hL hb (N := fun i => if i = 70 then M 70 else fun _ => 0) rfl (fun _ _ => rfl)).1
  exact (h i hi).trans (kp_clr i hi)
theorem lm_k (hL : L ≤ 500) (hb : ∀ k, k < 500 → byt (M 61 k) (M 70 k)) {i : Nat} (h : i ≠ 0) (h2 : i ≠ 62) : ldM M L s0 i = (ldR M L s0).2.2.1 i := by
  unfold ldM rd rsM
  rw [updM_n h]
  exact if_neg h2
theorem lw_k (hL : L ≤ 500) (hb : ∀ k, k < 500 → byt (M 61 k) (M 70 k)) {i : Nat} (h : i ≠ 0) (h2 : i ≠ 62) (h3 : 55 ≤ i) : ldW M L s0 i = M i := by
  have e : ldM M L s0 i = M i := (lm_k hL hb h h2).trans (kp_ld hL hb i (by omega))
  unfold ldW
  split
  · exact (kcp_1_28 i (by omega)).trans e
  · exact e
theorem lw_0 (hL : L ≤ 500) (hb : ∀ k, k < 500 → byt (M 61 k) (M 70 k)) : ldW M L s0 0 7 = 0 ∧ ldW M L s0 62 7 = (ldR M L s0).2.2.2.2.2.2.2.1 ∧ ldW M L s0 62 8 = (ldR M L s0).2.2.2.2.2.2.2.2 := by
  have e0 : ldM M L s0 0 7 = 0 := by unfold ldM; rw [updM_s, upd_s]
  have e1 : ldM M L s0 62 = r62 (nI L) (ldR M L s0).2.2.2.1 (nI (ldR M L s0).2.2.2.2.1) (nI (ldR M L s0).2.2.2.2.2.1) (ldR M L s0).2.2.2.2.2.2.1 (ldR M L s0).2.2.2.2.2.2.2.1 (ldR M L s0).2.2.2.2.2.2.2.2 := by
    unfold ldM; rw [updM_n (by decide)]; rfl
  unfold ldW
  split
  · rw [kcp_1_28 0 (by omega), kcp_1_28 62 (by omega), e1]
    exact ⟨e0, rfl, rfl⟩
  · rw [e1]
    exact ⟨e0, rfl, rfl⟩
theorem r_load (hR : Rel G M M n) (hL : L ≤ 500) (hb : ∀ k, k < 500 → byt (M 61 k) (M 70 k)) {G2 : AG} {M2 : Nat → Nat → Int32} {k : Nat} {R : Nat → Int32} {t : RV} (hQ : QLd M L s0 k R t) (hG : G2.1 = G.1) (hk : ∀ i, i ≠ 63 → i ≠ 64 → i ≠ 65 → M2 i = ldW M L s0 i) (h64 : ∀ p, p < 572 → M2 64 p = if t.2.2.2.2.2.1 = 0 then R p else ldW M L s0 64 p) (h10 : M2 63 10 = 0) (h16 : M2 63 16 = t.2.2.2.2.2.1) (h17 : M2 63 17 = t.2.2.2.2.2.2.1) : ldV M L s0 = (if t.2.2.2.2.2.1 = 0 then nI k else -1) ∧ Rel G2 M2 M2 n := by
  have z := lw_0 (s0 := s0) hL hb
  have kk : ∀ {i : Nat}, i ≠ 0 → i ≠ 62 → 55 ≤ i → ldW M L s0 i = M i := fun a c e => lw_k hL hb a c e
  have hT : Tx M2 M2 := by
    refine ⟨0, ?_, h10, by decide, fun k hk5 => ?_⟩
    · rw [hk 0 (by decide) (by decide) (by decide)]; exact z.1
    · rw [hk 61 (by decide) (by decide) (by decide), hk 70 (by decide) (by decide) (by decide), kk (by decide) (by decide) (by decide), kk (by decide) (by decide) (by decide)]
      exact hb k hk5
  have hSv : Sv G2 M2 M2 n := sv_cg hR.2.2.2 hG (fun i hi => (hk i (by omega) (by omega) (by omega)).trans (kk (by omega) (by omega) (by omega))) ((hk 66 (by decide) (by decide) (by decide)).trans (kk (by decide) (by decide) (by decide))) ((hk 67 (by decide) (by decide) (by decide)).trans (kk (by decide) (by decide) (by decide)))
  have m62 : M2 62 = ldW M L s0 62 := hk 62 (by decide) (by decide) (by decide)
  rcases hQ with ⟨q, e⟩ | ⟨q, q1, q2, N1, q3, q4⟩
  · have nq : ¬ (ldR M L s0).1 = true := by rw [q]; decide
    refine ⟨?_, ?_, hT, ?_, hSv⟩
    · unfold ldV; rw [if_neg nq, if_neg e.1]
    · have c : ∀ i, 1 ≤ i → i < 28 → M2 i = M i := fun i a b => by
        rw [hk i (by omega) (by omega) (by omega)]
        unfold ldW
        rw [if_neg nq, lm_k hL hb (by omega) (by omega)]
        exact kp_ld hL hb i (by omega)
      refine st_cg (st_lim hR.1 cpa_rf (B' := M2) (fun p hp => ?_)) c rfl
      rw [h64 p hp, if_neg e.1, kk (by decide) (by decide) (by decide)]
    · unfold Er
      rw [m62, z.2.1, z.2.2, h16, h17]
      exact e.2
  · have F := tr_f hL q2
    refine ⟨?_, ?_, hT, ?_, hSv⟩
    · unfold ldV; rw [if_pos q, if_pos F.e0, q1]
    · obtain ⟨nc, ns, nz, tt, hS, hI⟩ := q4
      have s1 : St (sD (ldR M L s0).2.2.1) N1 := ⟨nc, ns, nz, 0, 0, tt, hS, hI⟩
      have s2 : St (shA (ldM M L s0) 28) N1 := st_cg s1 (fun i a b => by
        show ldM M L s0 (i + 27) = (ldR M L s0).2.2.1 (i + 27)
        exact lm_k hL hb (by omega) (by omega)) rfl
      have s3 : St (shA (cp_1_28 (ldM M L s0)) 1) M2 := st_lim s2 cpa_1_28 (fun p hp => by
        rw [h64 p hp, if_pos F.e0, q3])
      refine st_cg s3 (fun i a b => ?_) rfl
      rw [hk i (by omega) (by omega) (by omega)]
      unfold ldW
      rw [if_pos q]
      rfl
    · unfold Er
      rw [m62, z.2.1, z.2.2, h16, h17]
      exact ⟨F.c0.trans F.e0.symm, F.ps⟩
end LdR
theorem lw_c50 {b L : Nat} {xs : Nat → Int32} {i : Nat} {G : AG} {M : Nat → Nat → Int32} {n ce sl : Nat} (hL : L ≤ 3072) (hi : i + 6 ≤ L) (hR : Rel G M M n) (hn : 72 ≤ n) (hce : ce ≤ 400000) (hsl : sl ≤ 6000000) (kk : LK b L xs i ce sl) : AW TL QL (CL b L xs) 3293 (LO i none none) [] (wld G M) n ce sl := by
  obtain ⟨l, h0, h63, hl, hb⟩ := hR.2.1
  obtain ⟨s0, hs0⟩ := nI_any (M 62 4)
  refine aw_aload_n (T := TL) dL_law_3293 rfl ?_
  refine ap_callVi (T := TL) (na := 0) kv_L_337 ko_X9_load (c_X9_load hn h0 hl hs0) dL_law_3294 e_0 (Nat.lt_of_lt_of_le (by decide) hn) rfl rfl rfl rfl (Nat.zero_le _) ⟨by decide, by decide, show ce + 0 ≤ 601024 by omega, show sl + 0 ≤ 7293034 by omega⟩ ?_
  refine aw_aload_n (T := TL) dL_law_3297 rfl ?_
  have k63 : ldW M l s0 63 = M 63 := lw_k hl hb (by decide) (by decide) (by decide)
  have k70 : ldW M l s0 70 = M 70 := lw_k hl hb (by decide) (by decide) (by decide)
  refine aw_callV (T := TL) (na := 0) kv_L_340 ko_X10_load (c_X10_load hn (L := l) (f := 501) (Q := QLd M l s0) (by rw [k63]; exact h63) hl (fun p hp => ?_) (fun N a c => ?_)) dL_law_3298 e_63 (l_63 hn) rfl rfl rfl rfl (show 1 + 0 ≤ 8 by decide) ⟨by decide, by decide, show ce + 0 + 0 ≤ 601024 by omega, show sl + 0 + 0 ≤ 7293034 by omega⟩ (fun E h' n' q => ?_) (fun o h' n' q => q.1) ?_
  · rw [k70]
    rcases hb p hp with ⟨v, g, -, e⟩ | ⟨-, v, -, g, e⟩
    · rw [e]; exact nI_neg1 (by omega)
    · rw [e]; exact nI_neg1 (by omega)
  · rw [k70] at a ⊢
    exact (s_ld hl hb a c).2
  · obtain ⟨-, k, R, t, G2, M2, -, e, -⟩ := q
    cases e
  intro v' h' q
  obtain ⟨-, k, R, t, G2, M2, hQ, e, rfl, hG, -, g1, g2, -, g3, g4, g5⟩ := q
  cases e
  obtain ⟨hv, hr⟩ := r_load hR hl hb hQ hG g1 g2 g3 g4 g5
  exact aw_icmp_eq (T := TL) 3404 dL_law_3301 (by decide) (fun _ => kk _ _ _ _ _ hr hn (show ce + 0 + 0 ≤ ce + 100 by omega) (show sl + 0 + 0 ≤ sl + 2000 by omega)) (fun q => absurd hv q)
