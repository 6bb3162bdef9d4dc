/-! ===== LOAD: the two readers, byte by byte ===== -/
theorem byt_c {a c : Int32} (h : byt a c) : a = c ∨ (¬ isLt a ∧ ¬ isDg a ∧ ¬ isBl a ∧ ¬ a = 59 ∧ ¬ isLt c ∧ ¬ isDg c ∧ ¬ isBl c ∧ ¬ c = 59) := by
  rcases h with ⟨b, hb, h1, h2⟩ | ⟨h1, b, hb1, hb2, h2⟩
  · exact Or.inl (h1.trans h2.symm)
  · have h3 : (128 : Int32) ≤ c := by rw [h2]; exact nI_le (a := 128) hb1 (by omega)
    refine Or.inr ⟨?_, ?_, ?_, ?_, ?_, ?_, ?_, ?_⟩ <;> grind
theorem byt_lt {a c : Int32} (h : byt a c) : (isLt a ↔ isLt c) ∧ (isDg a ↔ isDg c) ∧ (isBl a ↔ isBl c) ∧ (a = 59 ↔ c = 59) := by
  rcases byt_c h with rfl | ⟨h1, h2, h3, h4, h5, h6, h7, h8⟩
  · exact ⟨Iff.rfl, Iff.rfl, Iff.rfl, Iff.rfl⟩
  · exact ⟨iff_of_false h1 h5, iff_of_false h2 h6, iff_of_false h3 h7, iff_of_false h4 h8⟩
theorem byt_L {a c : Int32} (h : byt a c) (q : isLt a) : a = c := by
  rcases byt_c h with rfl | ⟨h1, -⟩
  · rfl
  · exact absurd q h1
theorem byt_D {a c : Int32} (h : byt a c) (q : isDg a) : a = c := by
  rcases byt_c h with rfl | ⟨-, h1, -⟩
  · rfl
  · exact absurd q h1
theorem runF_cg {p q : Nat → Bool} {L : Nat} (h : ∀ k, k < L → p k = q k) : ∀ f s, runF p L f s = runF q L f s
  | 0, s => rfl
  | f + 1, s => by
    unfold runF
    by_cases hs : s < L
    · rw [h s hs, runF_cg h f]
    · rw [if_neg (fun e => hs e.1), if_neg (fun e => hs e.1)]
section Byt
variable {x y : Nat → Int32} {L : Nat}
theorem bL (hb : ∀ k, k < L → byt (x k) (y k)) (k : Nat) (h : k < L) : pL x k = pL y k := by unfold pL; exact decide_eq_decide.mpr (byt_lt (hb k h)).1
theorem bD (hb : ∀ k, k < L → byt (x k) (y k)) (k : Nat) (h : k < L) : pD x k = pD y k := by unfold pD; exact decide_eq_decide.mpr (byt_lt (hb k h)).2.1
theorem bB (hb : ∀ k, k < L → byt (x k) (y k)) (k : Nat) (h : k < L) : pB x k = pB y k := by unfold pB; exact decide_eq_decide.mpr (byt_lt (hb k h)).2.2.1
theorem wdF_cg (hb : ∀ k, k < L → byt (x k) (y k)) : ∀ f s l w, wdF x L f s l w = wdF y L f s l w
  | 0, s, l, w => rfl
  | f + 1, s, l, w => by
    unfold wdF
    by_cases hs : s < L
    · rw [← bL hb s hs]
      by_cases hp : pL x s = true
      · have e := byt_L (hb s hs) (of_decide_eq_true hp)
        rw [if_pos (show s < L ∧ pL x s = true from ⟨hs, hp⟩), if_pos (show s < L ∧ pL x s = true from ⟨hs, hp⟩), e]
        exact wdF_cg hb f _ _ _
      · rw [if_neg (fun e => hp e.2), if_neg (fun e => hp e.2)]
    · rw [if_neg (fun e => hs e.1), if_neg (fun e => hs e.1)]
theorem nuF_cg (hb : ∀ k, k < L → byt (x k) (y k)) : ∀ f s v, nuF x L f s v = nuF y L f s v
  | 0, s, v => rfl
  | f + 1, s, v => by
    unfold nuF
    by_cases hs : s < L
    · rw [← bD hb s hs]
      by_cases hp : pD x s = true
      · have e := byt_D (hb s hs) (of_decide_eq_true hp)
        rw [if_pos (show s < L ∧ pD x s = true from ⟨hs, hp⟩), if_pos (show s < L ∧ pD x s = true from ⟨hs, hp⟩), e]
        exact nuF_cg hb f _ _
      · rw [if_neg (fun e => hp e.2), if_neg (fun e => hp e.2)]
    · rw [if_neg (fun e => hs e.1), if_neg (fun e => hs e.1)]
theorem tokV_cg (hb : ∀ k, k < L → byt (x k) (y k)) (s : Nat) (t : RV) : tokV y L s t = tokV x L s t := by
  unfold tokV
  by_cases hs : L ≤ s
  · rw [if_pos hs, if_pos hs]
  · have h1 := byt_lt (hb s (by omega))
    rw [if_neg hs, if_neg hs]
    unfold wdR nuR run
    rw [wdF_cg hb, nuF_cg hb, runF_cg (bL hb), runF_cg (bD hb)]
    simp only [h1.1, h1.2.1, h1.2.2.2]
theorem stpV_cg (hb : ∀ k, k < L → byt (x k) (y k)) (t : RV) : stpV y L t = stpV x L t := by
  unfold stpV
  rw [tokV_cg hb]
  unfold run
  rw [runF_cg (bB hb)]
theorem advV_cg (hb : ∀ k, k < L → byt (x k) (y k)) (t : RV) : advV y L t = advV x L t := by unfold advV; rw [stpV_cg hb]
theorem pnV_cg (hb : ∀ k, k < L → byt (x k) (y k)) (lo hi : Int32) (t : RV) : pnV y L lo hi t = pnV x L lo hi t := by unfold pnV; rw [advV_cg hb]
end Byt
/-! numbers -/
def NR (v w : Int32) : Prop := (∃ k : Nat, k ≤ 9999 ∧ v = nI k ∧ w = nI k) ∨ (∃ k : Nat, 9999 < k ∧ k ≤ 100000 ∧ v = nI k) ∧ 9999 < w
theorem dg_of {c : Int32} (h : isDg c) : ∃ d : Nat, d ≤ 9 ∧ c = nI (48 + d) := by
  obtain ⟨k, hk, e⟩ := day_of (show (57 : Int32) = nI 57 from rfl) (by decide) (show 0 ≤ c ∧ c ≤ 57 from ⟨by grind, h.2⟩)
  have h1 : 48 ≤ k := (nI_leI (a := 48) (by omega) (by omega)).mp (by rw [← e]; exact h.1)
  exact ⟨k - 48, by omega, by rw [e]; congr 1; omega⟩
theorem nr_dg {v w c : Int32} (h : NR v w) (hc : isDg c) : NR (dgV v c) (dgW w c) := by
  obtain ⟨d, hd, rfl⟩ := dg_of hc
  have e48 : ∀ m : Nat, nI m + (nI (48 + d) - 48) = nI (m + d) := fun m => by
    rw [show (48 : Int32) = nI 48 from rfl, nI_sb (by omega), nI_pl]; congr 1; omega
  rcases h with ⟨k, hk, rfl, rfl⟩ | ⟨⟨k, hk1, hk2, rfl⟩, hw⟩
  · have e1 : nI k * 10 + (nI (48 + d) - 48) = nI (k * 10 + d) := by rw [show (10 : Int32) = nI 10 from rfl, nI_mul, e48]
    have e2 : 10 * nI k + nI (48 + d) - 48 = nI (k * 10 + d) := by
      rw [show (10 : Int32) = nI 10 from rfl, nI_mul, nI_pl, show (48 : Int32) = nI 48 from rfl, nI_sb (by omega)]; congr 1; omega
    unfold dgV dgW
    have f1 : ¬ (100000 : Int32) < nI (k * 10 + d) := fun q => absurd ((nI_ltI (a := 100000) (b := k * 10 + d) (by omega) (by omega)).mp q) (by omega)
    have f2 : ¬ (9999 : Int32) < nI k := fun q => absurd ((nI_ltI (a := 9999) (b := k) (by omega) (by omega)).mp q) (by omega)
    rw [e1, e2, if_neg f1, if_neg f2]
    rcases Nat.lt_or_ge 9999 (k * 10 + d) with q | q
    · exact Or.inr ⟨⟨_, q, by omega, rfl⟩, (nI_ltI (a := 9999) (by omega) (by omega)).mpr q⟩
    · exact Or.inl ⟨_, q, rfl, rfl⟩
  · have e1 : nI k * 10 + (nI (48 + d) - 48) = nI (k * 10 + d) := by rw [show (10 : Int32) = nI 10 from rfl, nI_mul, e48]
    unfold dgV dgW
    rw [if_pos hw, e1]
    refine Or.inr ⟨?_, hw⟩
    split
    · exact ⟨100000, by omega, by omega, rfl⟩
    · rename_i q
      have h9 : k * 10 + d ≤ 100000 := Nat.not_lt.mp (fun z => q ((nI_ltI (a := 100000) (b := k * 10 + d) (by omega) (by omega)).mpr z))
      exact ⟨k * 10 + d, by omega, h9, rfl⟩
theorem nr_F {x : Nat → Int32} {L : Nat} : ∀ (f s : Nat) {v w : Int32}, NR v w → NR (numF x (pD x) L f s v) (nuF x L f s w)
  | 0, s, v, w, h => h
  | f + 1, s, v, w, h => by
    unfold numF nuF
    by_cases q : s < L ∧ pD x s = true
    · rw [if_pos q, if_pos q]
      exact nr_F f (s + 1) (nr_dg h (of_decide_eq_true q.2))
    · rw [if_neg q, if_neg q]; exact h
theorem nr_R {x : Nat → Int32} {L s : Nat} : NR (numR x (pD x) L s 0) (nuR x L s 0) := nr_F _ _ (Or.inl ⟨0, by decide, rfl, rfl⟩)
theorem nr_in {v w lo hi : Int32} (h : NR v w) (hh : hi ≤ 9999) : (v < lo ∨ hi < v) ↔ ¬ (lo ≤ w ∧ w ≤ hi) := by
  rcases h with ⟨k, hk, rfl, rfl⟩ | ⟨⟨k, hk1, hk2, rfl⟩, hw⟩
  · grind
  · have h1 : (9999 : Int32) < nI k := (nI_ltI (a := 9999) (by omega) (by omega)).mpr hk1
    grind
