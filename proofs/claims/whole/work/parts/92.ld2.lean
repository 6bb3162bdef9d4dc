/-! words -/
def pkN (a : Nat → Nat) : Nat → Nat
  | 0 => 0
  | j + 1 => 27 * pkN a j + a j
theorem pkN_lt {a : Nat → Nat} : ∀ m, (∀ j, j < m → a j ≤ 26) → pkN a m < 27 ^ m
  | 0, _ => Nat.one_pos
  | m + 1, h => by
    have h1 := pkN_lt m (fun j hj => h j (by omega))
    have h2 := h m (by omega)
    unfold pkN
    rw [Nat.pow_succ]
    omega
theorem pkN_inj {a c : Nat → Nat} : ∀ m, (∀ j, j < m → a j ≤ 26) → (∀ j, j < m → c j ≤ 26) → pkN a m = pkN c m → ∀ j, j < m → a j = c j
  | 0, _, _, _, j, hj => absurd hj (Nat.not_lt_zero j)
  | m + 1, ha, hc, h, j, hj => by
    have h1 := ha m (by omega)
    have h2 := hc m (by omega)
    unfold pkN at h
    have h3 : pkN a m = pkN c m := by omega
    rcases Nat.lt_or_ge j m with q | q
    · exact pkN_inj m (fun j hj => ha j (by omega)) (fun j hj => hc j (by omega)) h3 j q
    · have : j = m := by omega
      subst this; omega
theorem lt_of' {c : Int32} (h : isLt c) : ∃ d : Nat, 1 ≤ d ∧ d ≤ 26 ∧ c = nI (96 + d) := by
  obtain ⟨k, hk, e⟩ := day_of (show (122 : Int32) = nI 122 from rfl) (by decide) (show 0 ≤ c ∧ c ≤ 122 from ⟨by grind, h.2⟩)
  have h1 : 97 ≤ k := (nI_leI (a := 97) (by omega) (by omega)).mp (by rw [← e]; exact h.1)
  exact ⟨k - 96, by omega, by omega, by rw [e]; congr 1; omega⟩
theorem i64 {k : Nat} (h : k < 2 ^ 31) : (nI k).toInt64 = Int64.ofNat k := by
  apply Int64.toInt_inj.mp
  rw [Int32.toInt_toInt64, Int64.toInt_ofNat_of_lt (by omega)]
  exact Int32.toInt_ofNat_of_lt h
theorem pk_step {p d : Nat} (hd : 96 + d < 2 ^ 31) : 27 * Int64.ofNat p + (nI (96 + d)).toInt64 - 96 = Int64.ofNat (27 * p + d) := by
  rw [i64 hd, show (27 : Int64) = Int64.ofNat 27 from rfl, ← Int64.ofNat_mul, ← Int64.ofNat_add, show (96 : Int64) = Int64.ofNat 96 from rfl]
  rw [show 27 * p + (96 + d) = (27 * p + d) + 96 by omega, Int64.ofNat_add]
  exact Int64.add_sub_cancel _ _
/-- the letters read from l on -/
theorem wd_run {x : Nat → Int32} {L s0 : Nat} (hL : L ≤ 500) {a : Nat → Nat} : ∀ (f s l : Nat), s0 + l = s → L ≤ s + f → s ≤ L → (∀ j, s0 + j < runF (pL x) L f s → x (s0 + j) = nI (96 + a j) ∧ a j ≤ 26) → wdF x L f s (nI l) (Int64.ofNat (pkN a (min l 8))) = (nI (runF (pL x) L f s - s0), Int64.ofNat (pkN a (min (runF (pL x) L f s - s0) 8))) := by
  intro f
  induction f with
  | zero =>
    intro s l e h1 h2 _
    show (nI l, Int64.ofNat (pkN a (min l 8))) = (nI (s - s0), Int64.ofNat (pkN a (min (s - s0) 8)))
    rw [show s - s0 = l by omega]
  | succ f ih =>
    intro s l e h1 h2 ha
    unfold wdF runF
    unfold runF at ha
    by_cases q : s < L ∧ pL x s = true
    · rw [if_pos q] at ha ⊢
      rw [if_pos q]
      have hr := runF_le (p := pL x) (L := L) f (s + 1) (by omega)
      have hx := ha l (by omega)
      rw [e] at hx
      have hz : (if nI l < 8 then 27 * Int64.ofNat (pkN a (min l 8)) + (x s).toInt64 - 96 else Int64.ofNat (pkN a (min l 8))) = Int64.ofNat (pkN a (min (l + 1) 8)) := by
        rcases Nat.lt_or_ge l 8 with q8 | q8
        · have z : nI l < 8 := (nI_ltI (a := l) (b := 8) (by omega) (by decide)).mpr q8
          rw [if_pos z, hx.1, pk_step (by omega), show min (l + 1) 8 = l + 1 by omega, show min l 8 = l by omega]
          rfl
        · have z : ¬ nI l < 8 := fun z => absurd ((nI_ltI (a := l) (b := 8) (by omega) (by decide)).mp z) (by omega)
          rw [if_neg z, show min (l + 1) 8 = min l 8 by omega]
      rw [hz, show nI l + 1 = nI (l + 1) from nI_pl l 1]
      exact ih (s + 1) (l + 1) (by omega) (by omega) (by omega) ha
    · rw [if_neg q, if_neg q, show s - s0 = l by omega]
theorem run_all {p : Nat → Bool} {L : Nat} : ∀ (f s : Nat), ∀ j, s ≤ j → j < runF p L f s → p j = true
  | 0, s, j, h1, h2 => absurd h2 (Nat.not_lt.mpr h1)
  | f + 1, s, j, h1, h2 => by
    unfold runF at h2
    by_cases q : s < L ∧ p s = true
    · rw [if_pos q] at h2
      rcases Nat.lt_or_ge s j with r | r
      · exact run_all f (s + 1) j r h2
      · have : j = s := by omega
        subst this; exact q.2
    · rw [if_neg q] at h2; omega
/-- what is read of a word -/
theorem wd_of {x : Nat → Int32} {L s : Nat} (hL : L ≤ 500) (hs : s ≤ L) : ∃ a : Nat → Nat, (∀ j, j < run (pL x) L s - s → 1 ≤ a j ∧ a j ≤ 26 ∧ x (s + j) = nI (96 + a j)) ∧ wdR x L s 0 0 = (nI (run (pL x) L s - s), Int64.ofNat (pkN a (min (run (pL x) L s - s) 8))) := by
  have h0 : ∀ j, ∃ d : Nat, j < run (pL x) L s - s → 1 ≤ d ∧ d ≤ 26 ∧ x (s + j) = nI (96 + d) := fun j => by
    by_cases q : j < run (pL x) L s - s
    · obtain ⟨d, h1, h2, h3⟩ := lt_of' (of_decide_eq_true (run_all (L - s) s (s + j) (by omega) (show s + j < run (pL x) L s by omega)))
      exact ⟨d, fun _ => ⟨h1, h2, h3⟩⟩
    · exact ⟨0, fun z => absurd z q⟩
  refine ⟨fun j => (h0 j).choose, fun j hj => (h0 j).choose_spec hj, ?_⟩
  exact wd_run (s0 := s) hL (L - s) s 0 (by omega) (by omega) hs (fun j hj => ⟨((h0 j).choose_spec (show j < runF _ _ _ _ - s by omega)).2.2, ((h0 j).choose_spec (show j < runF _ _ _ _ - s by omega)).2.1⟩)
def wA (k j : Nat) : Nat := ((SBY.getD k []).getD j 0).toNatClampNeg - 96
theorem wB_of : ∀ k, k < 4 → ∀ j, j < wLen k → wB k j = nI (96 + wA k j) ∧ wA k j ≤ 26 := by decide
theorem pkW_of {k : Nat} (hk : k < 4) : ∀ m, m ≤ wLen k → pkW k m = Int64.ofNat (pkN (wA k) m)
  | 0, _ => rfl
  | m + 1, h => by
    have h1 := wB_of k hk m (by omega)
    show 27 * pkW k m + (wB k m).toInt64 - 96 = Int64.ofNat (27 * pkN (wA k) m + wA k m)
    rw [pkW_of hk m (by omega), h1.1, pk_step (by omega)]
theorem wEq_iff {x : Nat → Int32} {s k : Nat} : ∀ m, wEq x s k m = true ↔ ∀ j, j < m → x (s + j) = wB k j
  | 0 => ⟨fun _ j hj => absurd hj (Nat.not_lt_zero j), fun _ => rfl⟩
  | m + 1 => by
    unfold wEq
    rw [Bool.and_eq_true, wEq_iff m, decide_eq_true_eq]
    constructor
    · rintro ⟨h1, h2⟩ j hj
      rcases Nat.lt_or_ge j m with q | q
      · exact h1 j q
      · have : j = m := by omega
        subst this; exact h2
    · exact fun h => ⟨fun j hj => h j (by omega), h m (by omega)⟩
theorem wLen_le : ∀ k, k < 4 → wLen k ≤ 6 := by decide
theorem o64 {a c : Nat} (ha : a < 2 ^ 62) (hc : c < 2 ^ 62) (h : Int64.ofNat a = Int64.ofNat c) : a = c := by
  have h1 := congrArg Int64.toInt h
  rw [Int64.toInt_ofNat_of_lt (by omega), Int64.toInt_ofNat_of_lt (by omega)] at h1
  exact Int.ofNat.inj h1
/-- the same word by both -/
theorem word_eq {x : Nat → Int32} {L s k : Nat} (hL : L ≤ 500) (hs : s ≤ L) (hk : k < 4) : (run (pL x) L s - s = wLen k ∧ wEq x s k (wLen k) = true) ↔ ((wdR x L s 0 0).1 = nI (wLen k) ∧ (wdR x L s 0 0).2 = pkW k (wLen k)) := by
  obtain ⟨a, h1, h2⟩ := wd_of (x := x) hL hs
  have h6 := wLen_le k hk
  have hr := run_le (p := pL x) hs
  rw [h2, pkW_of hk _ (Nat.le_refl _), wEq_iff]
  have hA : ∀ j, j < wLen k → wA k j ≤ 26 := fun j hj => (wB_of k hk j hj).2
  constructor
  · rintro ⟨e, h⟩
    refine ⟨by rw [e], ?_⟩
    show Int64.ofNat (pkN a (min (run (pL x) L s - s) 8)) = _
    rw [e, show min (wLen k) 8 = wLen k by omega]
    rw [e] at h1
    have : ∀ m, m ≤ wLen k → pkN a m = pkN (wA k) m := by
      intro m
      induction m with
      | zero => intro _; rfl
      | succ m ih =>
        intro hm
        have g1 := (h1 m (by omega)).2.2
        rw [h m (by omega), (wB_of k hk m (by omega)).1] at g1
        have g2 := h1 m (by omega)
        have g3 := (nI_eq (a := 96 + wA k m) (b := 96 + a m) (by have := hA m (by omega); omega) (by omega)).mp g1
        show 27 * pkN a m + a m = 27 * pkN (wA k) m + wA k m
        rw [ih (by omega)]; omega
    rw [this _ (Nat.le_refl _)]
  · rintro ⟨e, h⟩
    have e1 : run (pL x) L s - s = wLen k := (nI_eq (by omega) (by omega)).mp e
    refine ⟨e1, ?_⟩
    have h9 : Int64.ofNat (pkN a (min (run (pL x) L s - s) 8)) = Int64.ofNat (pkN (wA k) (wLen k)) := h
    rw [e1, show min (wLen k) 8 = wLen k by omega] at h9
    rw [e1] at h1
    have b1 := pkN_lt (a := a) (wLen k) (fun j hj => (h1 j hj).2.1)
    have b2 := pkN_lt (a := wA k) (wLen k) hA
    have b3 : 27 ^ wLen k ≤ 27 ^ 6 := Nat.pow_le_pow_right (by decide) h6
    have b4 := pkN_inj (wLen k) (fun j hj => (h1 j hj).2.1) hA (o64 (by omega) (by omega) h9)
    intro j hj
    rw [(h1 j hj).2.2, (wB_of k hk j hj).1, b4 j hj]
