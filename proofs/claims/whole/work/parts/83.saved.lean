/-- one camp as another one, as far as it counts -/
def CpA (A A' : Nat → Nat → Int32) : Prop := A' 2 3 = A 2 3 ∧ A' 6 2 = A 6 2 ∧ A' 9 5 = A 9 5 ∧ A' 15 6 = A 15 6 ∧ A' 22 5 = A 22 5 ∧ A' 1 5 = A 1 5 ∧ (∀ k, k < 4 → A' 3 k = A 3 k) ∧ (∀ k, k < 4 → A' 4 k = A 4 k) ∧ (∀ k, k < 4 → A' 5 k = A 5 k) ∧ (∀ k, k < 16 → A' 7 k = A 7 k) ∧ (∀ k, k < 16 → A' 8 k = A 8 k) ∧ (∀ k, k < 12 → A' 10 k = A 10 k) ∧ (∀ k, k < 12 → A' 11 k = A 11 k) ∧ (∀ k, k < 12 → A' 12 k = A 12 k) ∧ (∀ k, k < 12 → A' 13 k = A 13 k) ∧ (∀ k, k < 12 → A' 14 k = A 14 k) ∧ (∀ k, k < 60 → A' 16 k = A 16 k) ∧ (∀ k, k < 60 → A' 17 k = A 17 k) ∧ (∀ k, k < 60 → A' 18 k = A 18 k) ∧ (∀ k, k < 60 → A' 19 k = A 19 k) ∧ (∀ k, k < 60 → A' 20 k = A 20 k) ∧ (∀ k, k < 60 → A' 21 k = A 21 k) ∧ (∀ k, k < 20 → A' 23 k = A 23 k) ∧ (∀ k, k < 20 → A' 24 k = A 24 k) ∧ (∀ k, k < 20 → A' 25 k = A 25 k) ∧ (∀ k, k < 20 → A' 26 k = A 26 k) ∧ (∀ k, k < 20 → A' 27 k = A 27 k)
theorem V_lim {B B' : Nat → Nat → Int32} (h : ∀ p, p < 572 → B' 64 p = B 64 p) : ∀ i k, V B' i k = V B i k := by
  intro i k
  unfold V
  split
  · dsimp only
    split
    · exact h _ (by omega)
    · rfl
  · dsimp only
    split
    · exact h _ (by omega)
    · rfl
  · dsimp only
    split
    · exact h _ (by omega)
    · rfl
  · dsimp only
    split
    · exact h _ (by omega)
    · rfl
  · dsimp only
    split
    · exact h _ (by omega)
    · rfl
  · dsimp only
    split
    · exact h _ (by omega)
    · rfl
  · dsimp only
    split
    · exact h _ (by omega)
    · rfl
  · dsimp only
    split
    · exact h _ (by omega)
    · rfl
  · dsimp only
    split
    · exact h _ (by omega)
    · rfl
  · dsimp only
    split
    · exact h _ (by omega)
    · rfl
  · dsimp only
    split
    · exact h _ (by omega)
    · rfl
  · dsimp only
    split
    · exact h _ (by omega)
    · rfl
  · dsimp only
    split
    · exact h _ (by omega)
    · rfl
  · dsimp only
    split
    · exact h _ (by omega)
    · rfl
  · dsimp only
    split
    · exact h _ (by omega)
    · rfl
  · dsimp only
    split
    · exact h _ (by omega)
    · rfl
  · dsimp only
    split
    · exact h _ (by omega)
    · rfl
  · dsimp only
    split
    · exact h _ (by omega)
    · rfl
  · dsimp only
    split
    · exact h _ (by omega)
    · rfl
  · dsimp only
    split
    · exact h _ (by omega)
    · rfl
  · dsimp only
    split
    · exact h _ (by omega)
    · rfl
  · rfl
theorem st_lim {A A' B B' : Nat → Nat → Int32} (h : St A B) (hA : CpA A A') (hB : ∀ p, p < 572 → B' 64 p = B 64 p) : St A' B' := by
  obtain ⟨nc, ns, nz, nb, nr, t, ⟨⟨a1, a2, a3, a4, a5, a6, a7, a8, a9, a10, a11, a12⟩, ⟨b1, -, b3, -, b5, -, b7, -, b9, -, b11, -⟩, ⟨s3, s4, s5⟩, ⟨s7, s8⟩, ⟨s10, s11, s12, s13, s14⟩, ⟨s16, s17, s18, s19, s20, s21⟩, ⟨s23, s24, s25, s26, s27⟩⟩, ⟨h1, h2, h3, h4, h5⟩⟩ := h
  obtain ⟨c2, c6, c9, c15, c22, c1, r3, r4, r5, r7, r8, r10, r11, r12, r13, r14, r16, r17, r18, r19, r20, r21, r23, r24, r25, r26, r27⟩ := hA
  have hV := V_lim hB
  refine ⟨nc, ns, nz, nb, nr, t, ⟨⟨c2.trans a1, a2, c6.trans a3, a4, c9.trans a5, a6, c15.trans a7, a8, c22.trans a9, a10, c1.trans a11, a12⟩, ⟨(hB 1 (by decide)).trans b1, a2, (hB 2 (by decide)).trans b3, a4, (hB 3 (by decide)).trans b5, a6, (hB 4 (by decide)).trans b7, a8, (hB 5 (by decide)).trans b9, a10, (hB 0 (by decide)).trans b11, a12⟩, ⟨fun k hk => (r3 k (by omega)).trans ((s3 k hk).trans (hV 3 k).symm), fun k hk => (r4 k (by omega)).trans ((s4 k hk).trans (hV 4 k).symm), fun k hk => (r5 k (by omega)).trans ((s5 k hk).trans (hV 5 k).symm)⟩, ⟨fun k hk => (r7 k (by omega)).trans ((s7 k hk).trans (hV 7 k).symm), fun k hk => (r8 k (by omega)).trans ((s8 k hk).trans (hV 8 k).symm)⟩, ⟨fun k hk => (r10 k (by omega)).trans ((s10 k hk).trans (hV 10 k).symm), fun k hk => (r11 k (by omega)).trans ((s11 k hk).trans (hV 11 k).symm), fun k hk => (r12 k (by omega)).trans ((s12 k hk).trans (hV 12 k).symm), fun k hk => (r13 k (by omega)).trans ((s13 k hk).trans (hV 13 k).symm), fun k hk => (r14 k (by omega)).trans ((s14 k hk).trans (hV 14 k).symm)⟩, ⟨fun k hk => (r16 k (by omega)).trans ((s16 k hk).trans (hV 16 k).symm), fun k hk => (r17 k (by omega)).trans ((s17 k hk).trans (hV 17 k).symm), fun k hk => (r18 k (by omega)).trans ((s18 k hk).trans (hV 18 k).symm), fun k hk => (r19 k (by omega)).trans ((s19 k hk).trans (hV 19 k).symm), fun k hk => (r20 k (by omega)).trans ((s20 k hk).trans (hV 20 k).symm), fun k hk => (r21 k (by omega)).trans ((s21 k hk).trans (hV 21 k).symm)⟩, ⟨fun k hk => (r23 k (by omega)).trans ((s23 k hk).trans (hV 23 k).symm), fun k hk => (r24 k (by omega)).trans ((s24 k hk).trans (hV 24 k).symm), fun k hk => (r25 k (by omega)).trans ((s25 k hk).trans (hV 25 k).symm), fun k hk => (r26 k (by omega)).trans ((s26 k hk).trans (hV 26 k).symm), fun k hk => (r27 k (by omega)).trans ((s27 k hk).trans (hV 27 k).symm)⟩⟩, fun k hk => by rw [r5 k (by omega)]; exact h1 k hk, fun k hk => ?_, fun i j hi hj q1 q2 q3 => ?_, fun c d hd hd9 => ?_, fun k hk => ?_⟩
  · obtain ⟨c, a, d, e1, e2, e3, e4, e5, e6, e7, e8⟩ := h2 k hk
    rw [r16 k (by omega), r17 k (by omega), r18 k (by omega), r20 k (by omega), r21 k (by omega)]
    refine ⟨c, a, d, e1, e2, e3, e4, e5, e6, e7, fun q => ?_⟩
    obtain ⟨g1, g2, s, g3, g4, g5, g6⟩ := e8 q
    exact ⟨g1, g2, s, g3, g4, by rw [r7 s (by omega)]; exact g5, by rw [r8 s (by omega)]; exact g6⟩
  · rw [r20 i (by omega)] at q1
    rw [r20 j (by omega)] at q2
    rw [r21 i (by omega), r21 j (by omega)] at q3
    exact h3 i j hi hj q1 q2 q3
  · have e1 : cnt (tkB (A' 16) (A' 17) (A' 18) (A' 20) c (nI d)) nb = cnt (tkB (A 16) (A 17) (A 18) (A 20) c (nI d)) nb := cnt_cg (fun j hj => by unfold tkB; rw [r16 j (by omega), r17 j (by omega), r18 j (by omega), r20 j (by omega)])
    have e2 : cnt (opB (A' 7) (A' 8) c (nI d)) ns = cnt (opB (A 7) (A 8) c (nI d)) ns := cnt_cg (fun j hj => by unfold opB; rw [r7 j (by omega), r8 j (by omega)])
    rw [e1, e2]
    exact h4 c d hd hd9
  · rw [r24 k (by omega), r25 k (by omega)]; exact h5 k hk
theorem cpy_in {f g : Nat → Int32} {n k : Nat} (h : k < n) : va_cpy f g 0 0 n k = f k := by
  unfold va_cpy; rw [if_pos ⟨by omega, by omega⟩]; congr 1; omega
theorem cpa_72_1 {M : Nat → Nat → Int32} : CpA (shA M 1) (shA (cp_72_1 M) 72) := ⟨rfl, rfl, rfl, rfl, rfl, rfl, fun k hk => cpy_in hk, fun k hk => cpy_in hk, fun k hk => cpy_in hk, fun k hk => cpy_in hk, fun k hk => cpy_in hk, fun k hk => cpy_in hk, fun k hk => cpy_in hk, fun k hk => cpy_in hk, fun k hk => cpy_in hk, fun k hk => cpy_in hk, fun k hk => cpy_in hk, fun k hk => cpy_in hk, fun k hk => cpy_in hk, fun k hk => cpy_in hk, fun k hk => cpy_in hk, fun k hk => cpy_in hk, fun k hk => cpy_in hk, fun k hk => cpy_in hk, fun k hk => cpy_in hk, fun k hk => cpy_in hk, fun k hk => cpy_in hk⟩
theorem cpa_1_72 {M : Nat → Nat → Int32} : CpA (shA M 72) (shA (cp_1_72 M) 1) := ⟨rfl, rfl, rfl, rfl, rfl, rfl, fun k hk => cpy_in hk, fun k hk => cpy_in hk, fun k hk => cpy_in hk, fun k hk => cpy_in hk, fun k hk => cpy_in hk, fun k hk => cpy_in hk, fun k hk => cpy_in hk, fun k hk => cpy_in hk, fun k hk => cpy_in hk, fun k hk => cpy_in hk, fun k hk => cpy_in hk, fun k hk => cpy_in hk, fun k hk => cpy_in hk, fun k hk => cpy_in hk, fun k hk => cpy_in hk, fun k hk => cpy_in hk, fun k hk => cpy_in hk, fun k hk => cpy_in hk, fun k hk => cpy_in hk, fun k hk => cpy_in hk, fun k hk => cpy_in hk⟩
theorem cpa_99_1 {M : Nat → Nat → Int32} : CpA (shA M 1) (shA (cp_99_1 M) 99) := ⟨rfl, rfl, rfl, rfl, rfl, rfl, fun k hk => cpy_in hk, fun k hk => cpy_in hk, fun k hk => cpy_in hk, fun k hk => cpy_in hk, fun k hk => cpy_in hk, fun k hk => cpy_in hk, fun k hk => cpy_in hk, fun k hk => cpy_in hk, fun k hk => cpy_in hk, fun k hk => cpy_in hk, fun k hk => cpy_in hk, fun k hk => cpy_in hk, fun k hk => cpy_in hk, fun k hk => cpy_in hk, fun k hk => cpy_in hk, fun k hk => cpy_in hk, fun k hk => cpy_in hk, fun k hk => cpy_in hk, fun k hk => cpy_in hk, fun k hk => cpy_in hk, fun k hk => cpy_in hk⟩
theorem cpa_1_99 {M : Nat → Nat → Int32} : CpA (shA M 99) (shA (cp_1_99 M) 1) := ⟨rfl, rfl, rfl, rfl, rfl, rfl, fun k hk => cpy_in hk, fun k hk => cpy_in hk, fun k hk => cpy_in hk, fun k hk => cpy_in hk, fun k hk => cpy_in hk, fun k hk => cpy_in hk, fun k hk => cpy_in hk, fun k hk => cpy_in hk, fun k hk => cpy_in hk, fun k hk => cpy_in hk, fun k hk => cpy_in hk, fun k hk => cpy_in hk, fun k hk => cpy_in hk, fun k hk => cpy_in hk, fun k hk => cpy_in hk, fun k hk => cpy_in hk, fun k hk => cpy_in hk, fun k hk => cpy_in hk, fun k hk => cpy_in hk, fun k hk => cpy_in hk, fun k hk => cpy_in hk⟩
theorem cpa_1_28 {M : Nat → Nat → Int32} : CpA (shA M 28) (shA (cp_1_28 M) 1) := ⟨rfl, rfl, rfl, rfl, rfl, rfl, fun k hk => cpy_in hk, fun k hk => cpy_in hk, fun k hk => cpy_in hk, fun k hk => cpy_in hk, fun k hk => cpy_in hk, fun k hk => cpy_in hk, fun k hk => cpy_in hk, fun k hk => cpy_in hk, fun k hk => cpy_in hk, fun k hk => cpy_in hk, fun k hk => cpy_in hk, fun k hk => cpy_in hk, fun k hk => cpy_in hk, fun k hk => cpy_in hk, fun k hk => cpy_in hk, fun k hk => cpy_in hk, fun k hk => cpy_in hk, fun k hk => cpy_in hk, fun k hk => cpy_in hk, fun k hk => cpy_in hk, fun k hk => cpy_in hk⟩
theorem kcp_72_1 {M : Nat → Nat → Int32} : ∀ i, ¬ (72 ≤ i ∧ i < 99) → cp_72_1 M i = M i := fun i hi => by
  unfold cp_72_1
  rw [updM_n (by omega), updM_n (by omega), updM_n (by omega), updM_n (by omega), updM_n (by omega), updM_n (by omega), updM_n (by omega), updM_n (by omega), updM_n (by omega), updM_n (by omega), updM_n (by omega), updM_n (by omega), updM_n (by omega), updM_n (by omega), updM_n (by omega), updM_n (by omega), updM_n (by omega), updM_n (by omega), updM_n (by omega), updM_n (by omega), updM_n (by omega), updM_n (by omega), updM_n (by omega), updM_n (by omega), updM_n (by omega), updM_n (by omega), updM_n (by omega)]
theorem kcp_99_1 {M : Nat → Nat → Int32} : ∀ i, ¬ (99 ≤ i ∧ i < 126) → cp_99_1 M i = M i := fun i hi => by
  unfold cp_99_1
  rw [updM_n (by omega), updM_n (by omega), updM_n (by omega), updM_n (by omega), updM_n (by omega), updM_n (by omega), updM_n (by omega), updM_n (by omega), updM_n (by omega), updM_n (by omega), updM_n (by omega), updM_n (by omega), updM_n (by omega), updM_n (by omega), updM_n (by omega), updM_n (by omega), updM_n (by omega), updM_n (by omega), updM_n (by omega), updM_n (by omega), updM_n (by omega), updM_n (by omega), updM_n (by omega), updM_n (by omega), updM_n (by omega), updM_n (by omega), updM_n (by omega)]
theorem kcp_1_72 {M : Nat → Nat → Int32} : ∀ i, ¬ (1 ≤ i ∧ i < 28) → cp_1_72 M i = M i := fun i hi => by
  unfold cp_1_72
  rw [updM_n (by omega), updM_n (by omega), updM_n (by omega), updM_n (by omega), updM_n (by omega), updM_n (by omega), updM_n (by omega), updM_n (by omega), updM_n (by omega), updM_n (by omega), updM_n (by omega), updM_n (by omega), updM_n (by omega), updM_n (by omega), updM_n (by omega), updM_n (by omega), updM_n (by omega), updM_n (by omega), updM_n (by omega), updM_n (by omega), updM_n (by omega), updM_n (by omega), updM_n (by omega), updM_n (by omega), updM_n (by omega), updM_n (by omega), updM_n (by omega)]
theorem kcp_1_99 {M : Nat → Nat → Int32} : ∀ i, ¬ (1 ≤ i ∧ i < 28) → cp_1_99 M i = M i := fun i hi => by
  unfold cp_1_99
  rw [updM_n (by omega), updM_n (by omega), updM_n (by omega), updM_n (by omega), updM_n (by omega), updM_n (by omega), updM_n (by omega), updM_n (by omega), updM_n (by omega), updM_n (by omega), updM_n (by omega), updM_n (by omega), updM_n (by omega), updM_n (by omega), updM_n (by omega), updM_n (by omega), updM_n (by omega), updM_n (by omega), updM_n (by omega), updM_n (by omega), updM_n (by omega), updM_n (by omega), updM_n (by omega), updM_n (by omega), updM_n (by omega), updM_n (by omega), updM_n (by omega)]
theorem kcp_1_28 {M : Nat → Nat → Int32} : ∀ i, ¬ (1 ≤ i ∧ i < 28) → cp_1_28 M i = M i := fun i hi => by
  unfold cp_1_28
  rw [updM_n (by omega), updM_n (by omega), updM_n (by omega), updM_n (by omega), updM_n (by omega), updM_n (by omega), updM_n (by omega), updM_n (by omega), updM_n (by omega), updM_n (by omega), updM_n (by omega), updM_n (by omega), updM_n (by omega), updM_n (by omega), updM_n (by omega), updM_n (by omega), updM_n (by omega), updM_n (by omega), updM_n (by omega), updM_n (by omega), updM_n (by omega), updM_n (by omega), updM_n (by omega), updM_n (by omega), updM_n (by omega), updM_n (by omega), updM_n (by omega)]
theorem sh_1 {A : Nat → Nat → Int32} : shA A 1 = A := rfl