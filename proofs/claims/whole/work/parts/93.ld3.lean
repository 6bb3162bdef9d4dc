/-! the readers' states -/
def TR (x : Nat → Int32) (L : Nat) (t : RT) (t' : RV) : Prop := ∃ (s : Nat) (u : RT) (u' : RV), s ≤ L ∧ t = tokT x L s u ∧ t' = tokV x L s u' ∧ u.2.2.2.2.1 = 0 ∧ u'.2.2.2.2.2.1 = 0 ∧ u.2.2.2.2.2 = u'.2.2.2.2.2.2.1
def ER (t : RT) (t' : RV) : Prop := ¬ t'.2.2.2.2.2.1 = 0 ∧ t.2.2.2.2.1 = t'.2.2.2.2.2.1 ∧ t.2.2.2.2.2 = t'.2.2.2.2.2.2.1
def TF (x : Nat → Int32) (L : Nat) (t : RT) (t' : RV) : Prop :=
  (t.1 = 0 ↔ t'.1 = 0) ∧
  (t.1 = 2 ↔ t'.1 = 3) ∧
  (t.1 = 3 ↔ t'.1 = 4) ∧
  (t.2.1 = t'.2.1) ∧
  (t.2.2.1 = t'.2.2.1) ∧
  (t.2.2.2.2.1 = 0) ∧
  (t'.2.2.2.2.2.1 = 0) ∧
  (t.2.2.2.2.2 = t'.2.2.2.2.2.2.1) ∧
  (t.2.2.1 ≤ L) ∧
  (t.2.1 ≤ t.2.2.1) ∧
  (t.1 = 2 → NR t.2.2.2.1 t'.2.2.2.2.1) ∧
  (∀ k, k < 4 → isW x t k = isWV t' k) ∧
  (¬ t.1 = 0 → t.2.1 < t.2.2.1) ∧
  (L ≤ t.2.1 → t.1 = 0)
theorem TF.k0 {x : Nat → Int32} {L : Nat} {t : RT} {t' : RV} (h : TF x L t t') : t.1 = 0 ↔ t'.1 = 0 := h.1
theorem TF.k2 {x : Nat → Int32} {L : Nat} {t : RT} {t' : RV} (h : TF x L t t') : t.1 = 2 ↔ t'.1 = 3 := h.2.1
theorem TF.k3 {x : Nat → Int32} {L : Nat} {t : RT} {t' : RV} (h : TF x L t t') : t.1 = 3 ↔ t'.1 = 4 := h.2.2.1
theorem TF.st {x : Nat → Int32} {L : Nat} {t : RT} {t' : RV} (h : TF x L t t') : t.2.1 = t'.2.1 := h.2.2.2.1
theorem TF.en {x : Nat → Int32} {L : Nat} {t : RT} {t' : RV} (h : TF x L t t') : t.2.2.1 = t'.2.2.1 := h.2.2.2.2.1
theorem TF.c0 {x : Nat → Int32} {L : Nat} {t : RT} {t' : RV} (h : TF x L t t') : t.2.2.2.2.1 = 0 := h.2.2.2.2.2.1
theorem TF.e0 {x : Nat → Int32} {L : Nat} {t : RT} {t' : RV} (h : TF x L t t') : t'.2.2.2.2.2.1 = 0 := h.2.2.2.2.2.2.1
theorem TF.ps {x : Nat → Int32} {L : Nat} {t : RT} {t' : RV} (h : TF x L t t') : t.2.2.2.2.2 = t'.2.2.2.2.2.2.1 := h.2.2.2.2.2.2.2.1
theorem TF.le {x : Nat → Int32} {L : Nat} {t : RT} {t' : RV} (h : TF x L t t') : t.2.2.1 ≤ L := h.2.2.2.2.2.2.2.2.1
theorem TF.sl {x : Nat → Int32} {L : Nat} {t : RT} {t' : RV} (h : TF x L t t') : t.2.1 ≤ t.2.2.1 := h.2.2.2.2.2.2.2.2.2.1
theorem TF.nr {x : Nat → Int32} {L : Nat} {t : RT} {t' : RV} (h : TF x L t t') : t.1 = 2 → NR t.2.2.2.1 t'.2.2.2.2.1 := h.2.2.2.2.2.2.2.2.2.2.1
theorem TF.wd {x : Nat → Int32} {L : Nat} {t : RT} {t' : RV} (h : TF x L t t') : ∀ k, k < 4 → isW x t k = isWV t' k := h.2.2.2.2.2.2.2.2.2.2.2.1
theorem TF.lt {x : Nat → Int32} {L : Nat} {t : RT} {t' : RV} (h : TF x L t t') : ¬ t.1 = 0 → t.2.1 < t.2.2.1 := h.2.2.2.2.2.2.2.2.2.2.2.2.1
theorem TF.z0 {x : Nat → Int32} {L : Nat} {t : RT} {t' : RV} (h : TF x L t t') : L ≤ t.2.1 → t.1 = 0 := h.2.2.2.2.2.2.2.2.2.2.2.2.2
theorem run_lt {p : Nat → Bool} {L s : Nat} (h : s < L) (hp : p s = true) : s < run p L s := by
  rw [run_t h hp]; exact (run_le (p := p) (L := L) (s := s + 1) h).1
theorem tr_f {x : Nat → Int32} {L : Nat} {t : RT} {t' : RV} (hL : L ≤ 500) (h : TR x L t t') : TF x L t t' := by
  obtain ⟨s, u, u', hs, rfl, rfl, h1, h2, h3⟩ := h
  unfold tokT tokV
  by_cases a : L ≤ s
  · rw [if_pos a, if_pos a]
    exact ⟨(show ((0 : Int32) = 0 ↔ (0 : Int32) = 0) by decide), (show ((0 : Int32) = 2 ↔ (0 : Int32) = 3) by decide), (show ((0 : Int32) = 3 ↔ (0 : Int32) = 4) by decide), rfl, rfl, h1, h2, h3, hs, Nat.le_refl _, fun q => absurd q (show ¬ (0 : Int32) = 2 by decide), fun k hk => by simp [isW, isWV], fun q => absurd rfl q, fun _ => rfl⟩
  · rw [if_neg a, if_neg a]
    by_cases b : isLt (x s)
    · rw [if_pos b, if_pos b]
      refine ⟨(show ((1 : Int32) = 0 ↔ (2 : Int32) = 0) by decide), (show ((1 : Int32) = 2 ↔ (2 : Int32) = 3) by decide), (show ((1 : Int32) = 3 ↔ (2 : Int32) = 4) by decide), rfl, rfl, h1, h2, h3, (run_le hs).2, (run_le hs).1, fun q => absurd q (show ¬ (1 : Int32) = 2 by decide), fun k hk => ?_, fun _ => run_lt (Nat.not_le.mp a) (decide_eq_true b), fun q => absurd q a⟩
      have := word_eq (x := x) hL hs hk
      unfold isW isWV
      rw [Bool.eq_iff_iff, Bool.and_eq_true, decide_eq_true_eq, decide_eq_true_eq]
      constructor
      · rintro ⟨⟨-, q1⟩, q2⟩; exact ⟨rfl, this.mp ⟨q1, q2⟩⟩
      · rintro ⟨-, q⟩; exact ⟨⟨rfl, (this.mpr q).1⟩, (this.mpr q).2⟩
    · rw [if_neg b, if_neg b]
      by_cases d : isDg (x s)
      · rw [if_pos d, if_pos d]
        exact ⟨(show ((2 : Int32) = 0 ↔ (3 : Int32) = 0) by decide), (show ((2 : Int32) = 2 ↔ (3 : Int32) = 3) by decide), (show ((2 : Int32) = 3 ↔ (3 : Int32) = 4) by decide), rfl, rfl, h1, h2, h3, (run_le hs).2, (run_le hs).1, fun _ => nr_R, fun k hk => by simp [isW, isWV], fun _ => run_lt (Nat.not_le.mp a) (decide_eq_true d), fun q => absurd q a⟩
      · rw [if_neg d, if_neg d]
        by_cases c : x s = 59
        · rw [if_pos c, if_pos c]
          exact ⟨(show ((3 : Int32) = 0 ↔ (4 : Int32) = 0) by decide), (show ((3 : Int32) = 2 ↔ (4 : Int32) = 3) by decide), (show ((3 : Int32) = 3 ↔ (4 : Int32) = 4) by decide), rfl, rfl, h1, h2, h3, by show s + 1 ≤ L; omega, Nat.le_succ _, fun q => absurd q (show ¬ (3 : Int32) = 2 by decide), fun k hk => by simp [isW, isWV], fun _ => Nat.lt_succ_self _, fun q => absurd q a⟩
        · rw [if_neg c, if_neg c]
          exact ⟨(show ((4 : Int32) = 0 ↔ (1 : Int32) = 0) by decide), (show ((4 : Int32) = 2 ↔ (1 : Int32) = 3) by decide), (show ((4 : Int32) = 3 ↔ (1 : Int32) = 4) by decide), rfl, rfl, h1, h2, h3, by show s + 1 ≤ L; omega, Nat.le_succ _, fun q => absurd q (show ¬ (4 : Int32) = 2 by decide), fun k hk => by simp [isW, isWV], fun _ => Nat.lt_succ_self _, fun q => absurd q a⟩
section Sim
variable {x : Nat → Int32} {L : Nat}
theorem tr_s (hL : L ≤ 500) {t : RT} {t' : RV} (h : TR x L t t') : TR x L (stepT x L t) (stpV x L t') ∧ t.2.2.1 ≤ (stepT x L t).2.1 := by
  have f := tr_f hL h
  refine ⟨⟨run (pB x) L t.2.2.1, t, t', (run_le f.le).2, rfl, by unfold stpV; rw [f.en], f.c0, f.e0, f.ps⟩, ?_⟩
  have h1 := (run_le (p := pB x) f.le).1
  unfold stepT tokT
  split
  · exact h1
  · split
    · exact h1
    · split <;> exact h1
theorem er_fail (hL : L ≤ 500) {t : RT} {t' : RV} (h : TR x L t t') {c : Int32} (hc : ¬ c = 0) {u : RT} : ER (failT t.2.1 c u) (t'.1, t'.2.1, t'.2.2.1, t'.2.2.2.1, t'.2.2.2.2.1, c, nI t'.2.1, t'.2.2.2.2.2.2.2) := ⟨hc, rfl, by show nI t.2.1 = nI t'.2.1; rw [(tr_f hL h).st]⟩
theorem rq_e {P : Prop} [Decidable P] {c : Int32} {t' : RV} (h : ¬ t'.2.2.2.2.2.1 = 0) : rqV P c t' = t' := by unfold rqV; rw [if_neg (fun q => h q.2)]
theorem ad_e {t' : RV} (h : ¬ t'.2.2.2.2.2.1 = 0) : advV x L t' = t' := by unfold advV; rw [if_neg h]
theorem pn_e {t' : RV} {lo hi : Int32} (h : ¬ t'.2.2.2.2.2.1 = 0) : pnV x L lo hi t' = t' := by unfold pnV; rw [rq_e h, rq_e h, ad_e h]
theorem rq_t {P : Prop} [Decidable P] {c : Int32} {t' : RV} (h : P) : rqV P c t' = t' := by unfold rqV; rw [if_neg (fun q => q.1 h)]
theorem rq_f {P : Prop} [Decidable P] {c : Int32} {t' : RV} (h : ¬ P) (h0 : t'.2.2.2.2.2.1 = 0) : rqV P c t' = (t'.1, t'.2.1, t'.2.2.1, t'.2.2.2.1, t'.2.2.2.2.1, c, nI t'.2.1, t'.2.2.2.2.2.2.2) := by unfold rqV; rw [if_pos ⟨h, h0⟩]
/-- a number asked of both: a the class's answer, s' the reference's state before, r' behind -/
def SV (x : Nat → Int32) (L : Nat) (lo hi : Int32) (a : Int32 × RT) (s' r' : RV) (s0 : Nat) : Prop := (a.1 = -1 ∧ ER a.2 r') ∨ (¬ a.1 = -1 ∧ TR x L a.2 r' ∧ a.1 = s'.2.2.2.2.1 ∧ (∃ k : Nat, k ≤ 9999 ∧ a.1 = nI k) ∧ lo ≤ a.1 ∧ a.1 ≤ hi ∧ s0 < a.2.2.1)
theorem sv_n (hL : L ≤ 500) {t : RT} {t' : RV} (h : TR x L t t') {lo hi : Int32} (hh : hi ≤ 9999) : SV x L lo hi (numT x L lo hi t) t' (pnV x L lo hi t') t.2.1 := by
  have f := tr_f hL h
  unfold numT pnV
  by_cases a : t.1 = 2
  · have a' := f.k2.mp a
    rw [if_neg (fun q => q a), rq_t a']
    have hn := f.nr a
    by_cases b : t.2.2.2.1 < lo ∨ hi < t.2.2.2.1
    · rw [if_pos b, rq_f ((nr_in hn hh).mp b) f.e0, ad_e (show ¬ (2 : Int32) = 0 by decide)]
      exact Or.inl ⟨rfl, er_fail hL h (by decide)⟩
    · have b' : lo ≤ t'.2.2.2.2.1 ∧ t'.2.2.2.2.1 ≤ hi := Classical.not_not.mp (fun q => b ((nr_in hn hh).mpr q))
      rw [if_neg b, rq_t b']
      unfold advV
      rw [if_pos f.e0]
      have s := tr_s hL h
      have l := f.lt (by rw [a]; decide)
      rcases hn with ⟨k, hk, e1, e2⟩ | ⟨-, q⟩
      · refine Or.inr ⟨?_, s.1, e1.trans e2.symm, ⟨k, hk, e1⟩, by show lo ≤ t.2.2.2.1; rw [e1, ← e2]; exact b'.1, by show t.2.2.2.1 ≤ hi; rw [e1, ← e2]; exact b'.2, by show t.2.1 < (stepT x L t).2.1; omega⟩
        show ¬ t.2.2.2.1 = -1
        rw [e1]; exact nI_neg1 (by omega)
      · exact absurd q (by grind)
  · rw [if_pos a, rq_f (fun q => a (f.k2.mpr q)) f.e0, rq_e (show ¬ (1 : Int32) = 0 by decide), ad_e (show ¬ (1 : Int32) = 0 by decide)]
    exact Or.inl ⟨rfl, er_fail hL h (by decide)⟩
theorem sv_x (hL : L ≤ 500) {lo0 hi0 : Int32} {a : Int32 × RT} {s' r' : RV} {s0 : Nat} (h : SV x L lo0 hi0 a s' r' s0) {lo hi lo' hi' : Int32} (hh : ¬ a.1 = -1 → hi ≤ 9999) (el : ¬ a.1 = -1 → lo' = lo ∧ hi' = hi) : SV x L lo hi (nxt a (numT x L lo' hi')) r' (pnV x L lo hi r') s0 := by
  unfold nxt
  rcases h with ⟨h1, h2⟩ | ⟨h1, h2, -, -, -, -, h8⟩
  · rw [if_pos h1, pn_e h2.1]; exact Or.inl ⟨rfl, h2⟩
  · rw [if_neg h1]
    obtain ⟨rfl, rfl⟩ := el h1
    rcases sv_n hL h2 (lo := lo') (hh h1) with q | ⟨q1, q2, q3, q4, q5, q6, q7⟩
    · exact Or.inl q
    · exact Or.inr ⟨q1, q2, q3, q4, q5, q6, by omega⟩
end Sim
