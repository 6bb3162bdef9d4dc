theorem cpa_rf {A : Nat → Nat → Int32} : CpA A A := by
  unfold CpA
  refine ⟨rfl, rfl, rfl, rfl, rfl, rfl, fun _ _ => rfl, fun _ _ => rfl, fun _ _ => rfl, fun _ _ => rfl, fun _ _ => rfl, fun _ _ => rfl, fun _ _ => rfl, fun _ _ => rfl, fun _ _ => rfl, fun _ _ => rfl, fun _ _ => rfl, fun _ _ => rfl, fun _ _ => rfl, fun _ _ => rfl, fun _ _ => rfl, fun _ _ => rfl, fun _ _ => rfl, fun _ _ => rfl, fun _ _ => rfl, fun _ _ => rfl, fun _ _ => rfl⟩
theorem cpB_n {b : Nat} (hb : b = 72 ∨ b = 99) {M : Nat → Nat → Int32} : ∀ i, ¬ (b ≤ i ∧ i < b + 27) → cpB b M i = M i := by
  intro i hi
  unfold cpB
  rcases hb with rfl | rfl
  · rw [if_pos rfl]; exact kcp_72_1 i hi
  · rw [if_neg (by decide)]; exact kcp_99_1 i hi
theorem cpB_a {b : Nat} (hb : b = 72 ∨ b = 99) {M : Nat → Nat → Int32} : CpA M (shA (cpB b M) b) := by
  unfold cpB
  rcases hb with rfl | rfl
  · rw [if_pos rfl]; exact cpa_72_1
  · rw [if_neg (by decide)]; exact cpa_99_1
theorem sv_d {G : AG} {A B : Nat → Nat → Int32} {n b : Nat} (h : Sv G A B n) (h0 : G.1 0 = some b) (h1 : G.1 1 = some b) : False := by
  obtain ⟨-, g2, -⟩ := h
  rw [h0, h1] at g2
  rcases g2 with ⟨-, u, -⟩ | ⟨-, ⟨-, v⟩ | ⟨u, -⟩⟩ | ⟨-, ⟨u, v⟩ | ⟨u, v⟩⟩
  · cases u
  · cases v
  · cases u
  · cases u; cases v
  · cases u; cases v
theorem sv_l {G : AG} {A B : Nat → Nat → Int32} {n b j : Nat} (h : Sv G A B n) (hj : j < 2) (hg : G.1 j = some b) : b < n := by
  obtain ⟨-, g2, -⟩ := h
  have k01 : j = 0 ∨ j = 1 := by omega
  rcases k01 with rfl | rfl
  · rw [hg] at g2
    rcases g2 with ⟨-, u, -⟩ | ⟨e, ⟨u, -⟩ | ⟨u, -⟩⟩ | ⟨e, ⟨u, -⟩ | ⟨u, -⟩⟩
    · cases u
    · cases u; omega
    · cases u
    · cases u; omega
    · cases u; omega
  · rw [hg] at g2
    rcases g2 with ⟨-, -, u⟩ | ⟨e, ⟨-, u⟩ | ⟨-, u⟩⟩ | ⟨e, ⟨-, u⟩ | ⟨-, u⟩⟩
    · cases u
    · cases u
    · cases u; omega
    · cases u; omega
    · cases u; omega
theorem r_save {G : AG} {M M0 M2 : Nat → Nat → Int32} {n n' k b : Nat} (h : Rel G M M n) (hk : k < 2) (hc : (G.1 k = some b ∧ n' = n ∧ M0 = M) ∨ (G.1 k = none ∧ b = n ∧ n' = n + 27 ∧ M0 = z27 M n)) (hb : b = 72 ∨ b = 99) (hr : RS (svM (cpB b M0) k) M2) : Rel (va_up G.1 k (some b), G.2) M2 M2 n' := by
  obtain ⟨g1, g2, g3⟩ := h.2.2.2
  have hM0 : ∀ i, ¬ (b ≤ i ∧ i < b + 27) → M0 i = M i := by
    intro i hi
    rcases hc with ⟨-, -, rfl⟩ | ⟨-, e2, -, rfl⟩
    · rfl
    · unfold z27; rw [if_neg (by omega)]
  have hM' : ∀ i, ¬ (b ≤ i ∧ i < b + 27) → cpB b M0 i = M i := fun i hi => (cpB_n hb i hi).trans (hM0 i hi)
  have hb1 : 72 ≤ b := by omega
  have sv : ∀ i, i ≠ 66 → i ≠ 67 → svM (cpB b M0) k i = cpB b M0 i := fun i h1 h2 => by unfold svM; rw [updM_n h2, updM_n h1]
  have r2 : ∀ i, i < 63 ∨ 72 ≤ i → M2 i = cpB b M0 i := fun i hi => (hr.1 i (by omega) (by omega) (by omega)).trans (sv i (by omega) (by omega))
  have r64 : M2 64 = M 64 := (hr.1 64 (by decide) (by decide) (by decide)).trans ((sv 64 (by decide) (by decide)).trans (hM' 64 (by omega)))
  have r70 : M2 70 = M 70 := (hr.1 70 (by decide) (by decide) (by decide)).trans ((sv 70 (by decide) (by decide)).trans (hM' 70 (by omega)))
  have r63 : ∀ j, j ≠ 4 → j ≠ 7 → j ≠ 8 → M2 63 j = M 63 j := fun j h1 h2 h3 => (hr.2 j h1 h2 h3).trans (by rw [sv 63 (by decide) (by decide), hM' 63 (by omega)])
  have r66 : M2 66 = va_cpy (M 64) (M 66) 0 (572 * k) 572 := by
    rw [hr.1 66 (by decide) (by decide) (by decide)]
    unfold svM
    rw [updM_n (by decide), updM_s, hM' 64 (by omega), hM' 66 (by omega)]
  have r67 : M2 67 = upd (M 67) k 1 := by
    rw [hr.1 67 (by decide) (by decide) (by decide)]
    unfold svM
    rw [updM_s, hM' 67 (by omega)]
  have rl : ∀ i, i < 63 → M2 i = M i := fun i hi => (r2 i (Or.inl hi)).trans (hM' i (by omega))
  refine ⟨st_cg h.1 (fun i h1 h2 => rl i (by omega)) r64, tx_cg h.2.1 (rl 0 (by omega)) (rl 61 (by omega)) (r63 10 (by decide) (by decide) (by decide)) r70, er_cg h.2.2.1 (rl 62 (by omega)) (r63 16 (by decide) (by decide) (by decide)) (r63 17 (by decide) (by decide) (by decide)), fun j hj => ?_, ?_, fun j hj => ?_⟩
  · exact (va_up_ne _ _ (by omega)).trans (g1 j hj)
  · show (n' = 72 ∧ va_up G.1 k (some b) 0 = none ∧ va_up G.1 k (some b) 1 = none) ∨ (n' = 99 ∧ ((va_up G.1 k (some b) 0 = some 72 ∧ va_up G.1 k (some b) 1 = none) ∨ (va_up G.1 k (some b) 0 = none ∧ va_up G.1 k (some b) 1 = some 72))) ∨ (n' = 126 ∧ ((va_up G.1 k (some b) 0 = some 72 ∧ va_up G.1 k (some b) 1 = some 99) ∨ (va_up G.1 k (some b) 0 = some 99 ∧ va_up G.1 k (some b) 1 = some 72)))
    rcases hc with ⟨e1, rfl, -⟩ | ⟨e1, rfl, rfl, -⟩
    · have : va_up G.1 k (some b) = G.1 := by
        funext q; unfold va_up; split
        · rename_i w; rw [w, e1]
        · rfl
      rw [this]; exact g2
    · have k01 : k = 0 ∨ k = 1 := by omega
      rcases k01 with rfl | rfl
      · rw [va_up_self, va_up_ne _ _ (by decide)]
        rcases g2 with ⟨rfl, -, q⟩ | ⟨rfl, ⟨q1, -⟩ | ⟨-, q⟩⟩ | ⟨rfl, ⟨q1, -⟩ | ⟨q1, -⟩⟩
        · exact Or.inr (Or.inl ⟨rfl, Or.inl ⟨rfl, q⟩⟩)
        · rw [e1] at q1; cases q1
        · exact Or.inr (Or.inr ⟨rfl, Or.inr ⟨rfl, q⟩⟩)
        · rw [e1] at q1; cases q1
        · rw [e1] at q1; cases q1
      · rw [va_up_self, va_up_ne _ _ (by decide)]
        rcases g2 with ⟨rfl, q, -⟩ | ⟨rfl, ⟨q, -⟩ | ⟨-, q1⟩⟩ | ⟨rfl, ⟨-, q1⟩ | ⟨-, q1⟩⟩
        · exact Or.inr (Or.inl ⟨rfl, Or.inr ⟨q, rfl⟩⟩)
        · exact Or.inr (Or.inr ⟨rfl, Or.inl ⟨q, rfl⟩⟩)
        · rw [e1] at q1; cases q1
        · rw [e1] at q1; cases q1
        · rw [e1] at q1; cases q1
  · show (va_up G.1 k (some b) j = none ∧ M2 67 j = 0) ∨ ∃ b', va_up G.1 k (some b) j = some b' ∧ (b' = 72 ∨ b' = 99) ∧ ¬ M2 67 j = 0 ∧ St (shA M2 b') (svB M2 j)
    by_cases e : j = k
    · subst e
      refine Or.inr ⟨b, va_up_self _ _ _, hb, by rw [r67, upd_s]; decide, ?_⟩
      have h0 : St M0 M := st_cg h.1 (fun i h1 h2 => hM0 i (by omega)) rfl
      have h1 : St (shA (cpB b M0) b) (svB M2 j) := st_lim h0 (cpB_a hb) (fun p hp => by
        unfold svB
        rw [r66]
        unfold va_cpy
        rw [if_pos ⟨by omega, by omega⟩]
        congr 1
        omega)
      exact st_cg h1 (fun i q1 q2 => r2 _ (by omega)) rfl
    · rw [va_up_ne _ _ e]
      rcases g3 j hj with ⟨q1, q2⟩ | ⟨b', q1, q2, q3, q4⟩
      · exact Or.inl ⟨q1, by rw [r67, upd_n e]; exact q2⟩
      · refine Or.inr ⟨b', q1, q2, by rw [r67, upd_n e]; exact q3, ?_⟩
        have hne : b' ≠ b := by
          intro hbb
          subst hbb
          rcases hc with ⟨e1, -, -⟩ | ⟨e1, e2, -, -⟩
          · have k01 : (k = 0 ∧ j = 1) ∨ (k = 1 ∧ j = 0) := by omega
            rcases k01 with ⟨rfl, rfl⟩ | ⟨rfl, rfl⟩
            · exact sv_d h.2.2.2 e1 q1
            · exact sv_d h.2.2.2 q1 e1
          · have := sv_l h.2.2.2 hj q1
            omega
        have h1 : St (shA M b') (svB M2 j) := st_lim q4 cpa_rf (fun p hp => by
          unfold svB
          rw [r66]
          unfold va_cpy
          rw [if_neg (by omega)])
        exact st_cg h1 (fun i q5 q6 => (r2 _ (by omega)).trans (hM' _ (by omega))) rfl
theorem r_restore {G G2 : AG} {M M' M2 : Nat → Nat → Int32} {n k b : Nat} (h : Rel G M M n) (hk : k < 2) (hg : G.1 k = some b) (hs : SEq M' (rsC G M k)) (hG : G2.1 = G.1) (hr : RS (rsM1 M' k) M2) : Rel G2 M2 M2 n := by
  obtain ⟨g1, g2, g3⟩ := h.2.2.2
  obtain ⟨hb, hst⟩ : (b = 72 ∨ b = 99) ∧ St (shA M b) (svB M k) := by
    rcases g3 k hk with ⟨q, -⟩ | ⟨b', q1, q2, -, q4⟩
    · rw [hg] at q; cases q
    · rw [hg] at q1; cases q1; exact ⟨q2, q4⟩
  have hC : ∀ i, ¬ (1 ≤ i ∧ i < 28) → rsC G M k i = M i := by
    intro i hi
    unfold rsC
    split
    · exact kcp_1_72 i (by omega)
    · exact kcp_1_99 i (by omega)
  have hA : CpA (shA M b) (rsC G M k) := by
    unfold rsC
    rw [hg]
    rcases hb with rfl | rfl
    · rw [if_pos rfl]; exact cpa_1_72
    · rw [if_neg (by decide)]; exact cpa_1_99
  have hM' : ∀ i, 28 ≤ i → ¬ scr i → M' i = M i := fun i h1 h2 => (hs i h2).trans (hC i (by omega))
  have r1 : ∀ i, i ≠ 64 → rsM1 M' k i = M' i := fun i hi => by unfold rsM1; exact updM_n hi
  have r2 : ∀ i, i ≠ 63 → i ≠ 64 → i ≠ 68 → i ≠ 69 → M2 i = M' i := fun i h1 h2 h3 h4 => (hr.1 i h1 h3 h4).trans (r1 i h2)
  have r64 : ∀ p, p < 572 → M2 64 p = M 66 (572 * k + p) := by
    intro p hp
    rw [hr.1 64 (by decide) (by decide) (by decide)]
    unfold rsM1
    rw [updM_s, hM' 66 (by omega) (by unfold scr; omega)]
    unfold va_cpy
    rw [if_pos ⟨by omega, by omega⟩]
    congr 1
  have h1 : St (rsC G M k) M2 := st_lim hst hA (fun p hp => r64 p hp)
  have r63 : ∀ j, j ≠ 4 → j ≠ 7 → j ≠ 8 → M2 63 j = M 63 j := fun j h1 h2 h3 => (hr.2 j h1 h2 h3).trans (by rw [r1 63 (by decide), hM' 63 (by omega) (by unfold scr; omega)])
  have ro : ∀ i, (i = 61 ∨ i = 62 ∨ i = 66 ∨ i = 67 ∨ i = 70 ∨ 72 ≤ i) → M2 i = M i := fun i hi => (r2 i (by omega) (by omega) (by omega) (by omega)).trans (hM' i (by omega) (by unfold scr; omega))
  refine ⟨st_cg h1 (fun i q1 q2 => (r2 i (by omega) (by omega) (by omega) (by omega)).trans (hs i (by unfold scr; omega))) rfl, tx_cg h.2.1 ?_ (ro 61 (by omega)) (r63 10 (by decide) (by decide) (by decide)) (ro 70 (by omega)), er_cg h.2.2.1 (ro 62 (by omega)) (r63 16 (by decide) (by decide) (by decide)) (r63 17 (by decide) (by decide) (by decide)), sv_cg h.2.2.2 hG (fun i hi => ro i (by omega)) (ro 66 (by omega)) (ro 67 (by omega))⟩
  exact (r2 0 (by decide) (by decide) (by decide) (by decide)).trans ((hs 0 (by unfold scr; omega)).trans (hC 0 (by omega)))
theorem q_restore {G : AG} {A B : Nat → Nat → Int32} {n : Nat} (h : Rel G A B n) (x : Int32) : cd_restore G x = cr_restore B x := by
  obtain ⟨-, -, g3⟩ := h.2.2.2
  refine ifc (k_rg 0 1 x) rfl (fun z => ?_)
  obtain ⟨k, hk, ek⟩ := day_of (show (1 : Int32) = nI 1 from rfl) (by decide) (Classical.not_not.mp z)
  rw [cl_of ek (by omega)]
  refine ifc ?_ rfl (fun _ => rfl)
  rcases g3 k (by omega) with ⟨q1, q2⟩ | ⟨b, q1, -, q3, -⟩
  · exact ⟨fun _ => q2, fun _ => q1⟩
  · exact ⟨fun q => absurd (q1.symm.trans q) (by simp), fun q => absurd q q3⟩
theorem gs_of {G : AG} {A B : Nat → Nat → Int32} {n : Nat} (h : Sv G A B n) : GS G n := by
  obtain ⟨g1, g2, -⟩ := h
  refine ⟨by omega, fun k => ?_⟩
  rcases Nat.lt_or_ge k 2 with q | q
  · have k01 : k = 0 ∨ k = 1 := by omega
    rcases k01 with rfl | rfl
    · rcases g2 with ⟨rfl, u, v⟩ | ⟨rfl, ⟨u, v⟩ | ⟨u, v⟩⟩ | ⟨rfl, ⟨u, v⟩ | ⟨u, v⟩⟩
      · exact Or.inl u
      · exact Or.inr (Or.inl ⟨u, by omega⟩)
      · exact Or.inl u
      · exact Or.inr (Or.inl ⟨u, by omega⟩)
      · exact Or.inr (Or.inr ⟨u, by omega⟩)
    · rcases g2 with ⟨rfl, u, v⟩ | ⟨rfl, ⟨u, v⟩ | ⟨u, v⟩⟩ | ⟨rfl, ⟨u, v⟩ | ⟨u, v⟩⟩
      · exact Or.inl v
      · exact Or.inl v
      · exact Or.inr (Or.inl ⟨v, by omega⟩)
      · exact Or.inr (Or.inr ⟨v, by omega⟩)
      · exact Or.inr (Or.inl ⟨v, by omega⟩)
  · exact Or.inl (g1 k q)
theorem gn_of {G : AG} {A B : Nat → Nat → Int32} {n : Nat} (h : Sv G A B n) {k : Nat} (hk : k < 2) (hg : G.1 k = none) : n = 72 ∨ n = 99 := by
  obtain ⟨-, g2, -⟩ := h
  rcases g2 with ⟨rfl, u, v⟩ | ⟨rfl, u⟩ | ⟨rfl, ⟨u, v⟩ | ⟨u, v⟩⟩
  · exact Or.inl rfl
  · exact Or.inr rfl
  · have k01 : k = 0 ∨ k = 1 := by omega
    rcases k01 with rfl | rfl
    · rw [u] at hg; cases hg
    · rw [v] at hg; cases hg
  · have k01 : k = 0 ∨ k = 1 := by omega
    rcases k01 with rfl | rfl
    · rw [u] at hg; cases hg
    · rw [v] at hg; cases hg
