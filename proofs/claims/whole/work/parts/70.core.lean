/-! ===== THE TWO CAMPS SIDE BY SIDE ===== -/
theorem cnt_cg {p q : Nat → Bool} : ∀ {n : Nat}, (∀ k, k < n → p k = q k) → cnt p n = cnt q n
  | 0, _ => rfl
  | n + 1, h => by unfold cnt; rw [cnt_cg (fun k hk => h k (by omega)), h n (by omega)]
theorem any_cg {p q : Nat → Bool} : ∀ {n : Nat}, (∀ k, k < n → p k = q k) → anyB p n = anyB q n
  | 0, _ => rfl
  | n + 1, h => by unfold anyB; rw [any_cg (fun k hk => h k (by omega)), h n (by omega)]
theorem fst_cg {p q : Nat → Bool} : ∀ {n : Nat}, (∀ k, k < n → p k = q k) → fstN p n = fstN q n
  | 0, _ => rfl
  | n + 1, h => by unfold fstN; rw [fst_cg (fun k hk => h k (by omega)), h n (by omega)]
theorem sum_cg {f g : Nat → Int32} : ∀ {n : Nat}, (∀ k, k < n → f k = g k) → sumK f n = sumK g n
  | 0, _ => rfl
  | n + 1, h => by unfold sumK; rw [sum_cg (fun k hk => h k (by omega)), h n (by omega)]
theorem seas_cg {a b c a' b' c' : Nat → Int32} {x d : Int32} : ∀ {n : Nat}, (∀ k, k < n → a k = a' k ∧ b k = b' k ∧ c k = c' k) → seasN a b c x d n = seasN a' b' c' x d n
  | 0, _ => rfl
  | n + 1, h => by
    obtain ⟨h1, h2, h3⟩ := h n (by omega)
    unfold seasN; rw [seas_cg (fun k hk => h k (by omega)), h1, h2, h3]
theorem best_cg {ok ok' : Nat → Bool} {bt bt' : Nat → Nat → Bool} : ∀ {n : Nat}, n < 2 ^ 31 → (∀ k, k < n → ok k = ok' k) → (∀ k b, k < n → b < n → bt k b = bt' k b) → bestN ok bt n = bestN ok' bt' n
  | 0, _, _, _ => rfl
  | n + 1, h0, h, h2 => by
    have ih := best_cg (n := n) (by omega) (fun k hk => h k (by omega)) (fun k b hk hb => h2 k b (by omega) (by omega))
    unfold bestN
    rw [ih, h n (by omega)]
    rcases best_in ok' bt' n with e | ⟨b, hb, e, -⟩
    · rw [e]; simp
    · rw [e, nI_clamp (by omega), h2 n b (by omega) (by omega)]
theorem sval_cg {s : Int32} {f g : Nat → Int32} {d : Int32} {n : Nat} (hs : s = -1 ∨ ∃ k, k < n ∧ s = nI k) (hn : n < 2 ^ 31) (h : ∀ k, k < n → f k = g k) : sval s f d = sval s g d := by
  unfold sval
  split
  · rfl
  · rename_i q
    obtain ⟨k, hk, rfl⟩ := hs.resolve_left q
    rw [nI_clamp (by omega)]
    exact h k hk
theorem rl_eq {t w s q d : Int32} {op : Nat} (hop : op ≤ 16) : relC t w s q (nI op) d = rlR t w s q (nI op) d := by
  unfold relC rlR limF
  by_cases h : d < t ∨ 998 < d
  · rw [if_pos h, if_pos (Or.inl (fun q => h.elim (Int32.not_lt.mpr q.1) (Int32.not_lt.mpr q.2)))]
  · have h1 : t ≤ d ∧ d ≤ 998 := ⟨Int32.not_lt.mp (fun q => h (Or.inl q)), Int32.not_lt.mp (fun q => h (Or.inr q))⟩
    have h0 : ¬ nI op < 0 := Int32.not_lt.mpr (nI_pos' (by omega))
    rw [if_neg h, if_pos h1]
    by_cases hw : w < d - t
    · rw [if_pos hw, if_pos (Or.inr hw), if_neg h0]
    · rw [if_neg hw, if_neg (show ¬ (¬ (t ≤ d ∧ d ≤ 998) ∨ w < d - t) from fun q => q.elim (fun r => r h1) hw)]
      by_cases hs : d - t ≤ s
      · rw [if_pos hs, if_pos hs]
        by_cases h6 : nI op < 16
        · rw [if_pos h6]
        · rw [if_neg h6]
          have : op = 16 := by have := le_of_nlt (show nI op = nI op from rfl) (show (16 : Int32) = nI 16 from rfl) (by omega) (by decide) h6; omega
          rw [this]; rfl
      · rw [if_neg hs, if_neg hs]
        by_cases h6 : nI op < q
        · rw [if_pos h6, if_neg (Int32.not_lt.mpr (Int32.le_of_lt h6))]
        · rw [if_neg h6]
          by_cases h7 : q < nI op
          · rw [if_pos h7]
          · rw [if_neg h7]; exact Int32.le_antisymm (Int32.not_lt.mp h6) (Int32.not_lt.mp h7)
theorem rl_nat {t w s q d : Int32} {op : Nat} (hop : op ≤ 16) (hq : 0 ≤ q) : ∃ r, r ≤ 16 ∧ rlR t w s q (nI op) d = nI r := by
  unfold rlR
  split
  · exact ⟨0, by omega, rfl⟩
  · have key : ∃ r, r ≤ 16 ∧ (if t ≤ d ∧ d ≤ 998 then nI op else 0) = nI r := by
      split
      · exact ⟨op, hop, rfl⟩
      · exact ⟨0, by omega, rfl⟩
    obtain ⟨r, hr, e⟩ := key
    rw [e]
    split
    · exact ⟨r, hr, rfl⟩
    · split
      · rename_i h3
        obtain ⟨k, hk, rfl⟩ := nI_of (Int32.not_lt.mpr hq)
        have := lt_of_lt (rfl : nI k = nI k) (rfl : nI r = nI r) hk (by omega) h3
        exact ⟨k, by omega, rfl⟩
      · exact ⟨r, hr, rfl⟩
theorem sb_pos {r k : Nat} (hr : r < 2 ^ 30) (hk : k < 2 ^ 30) : 0 < nI r - nI k ↔ k < r := by
  rw [Int32.lt_iff_toInt_lt, Int32.toInt_sub, nI_toInt (by omega), nI_toInt (by omega)]
  have : (0 : Int32).toInt = 0 := by decide
  rw [this, Int.bmod_def]
  split <;> omega
theorem lt_nI {a b : Nat} (ha : a < 2 ^ 31) (hb : b < 2 ^ 31) : nI a < nI b ↔ a < b := ⟨fun h => lt_of_lt rfl rfl ha hb h, fun h => by rw [Int32.lt_iff_toInt_lt, nI_toInt ha, nI_toInt hb]; omega⟩
theorem le_nI {a b : Nat} (ha : a < 2 ^ 31) (hb : b < 2 ^ 31) : nI a ≤ nI b ↔ a ≤ b := ⟨fun h => le_of_le rfl rfl ha hb h, fun h => by rw [Int32.le_iff_toInt_le, nI_toInt ha, nI_toInt hb]; omega⟩
theorem fr_eq {r k : Nat} (hr : r ≤ 16) (hk : k ≤ 60) : (0 < nI r ∧ nI k < nI r) ↔ ¬ (if 0 < nI r - nI k then nI r - nI k else 0) = 0 := by
  rw [show (0 : Int32) < nI r ↔ 0 < r from lt_nI (a := 0) (by omega) (by omega), lt_nI (by omega) (by omega)]
  by_cases h : 0 < nI r - nI k
  · rw [if_pos h]
    have h2 := (sb_pos (by omega) (by omega)).mp h
    refine ⟨fun _ e => ?_, fun _ => by omega⟩
    rw [e] at h; exact absurd h (by decide)
  · rw [if_neg h]
    have h2 : ¬ k < r := fun q => h ((sb_pos (by omega) (by omega)).mpr q)
    exact ⟨fun q => absurd q.2 h2, fun q => absurd rfl q⟩
theorem lv_eq {t w a m : Int32} {tt mm : Nat} (ht : t = nI tt) (htl : tt ≤ 999) (hm : m = nI mm) (hm1 : 1 ≤ mm) (hm9 : mm ≤ 28) : lvC t w a m ↔ lvR t w a m := by
  by_cases h1 : a < t
  · exact ⟨fun _ => Or.inl h1, fun _ => Or.inl h1⟩
  have h0 : ¬ a < 0 := by
    intro q
    apply h1
    rw [ht]
    rw [Int32.lt_iff_toInt_lt] at q ⊢
    rw [nI_toInt (by omega)]
    have : (0 : Int32).toInt = 0 := by decide
    omega
  obtain ⟨x, hx9, rfl⟩ := nI_of h0
  have hxt : tt ≤ x := le_of_nlt rfl ht (by omega) (by omega) h1
  have e64 : (nI x).toInt64 + m.toInt64 - 1 = lN (x + mm - 1) := by
    rw [hm, nI_l hx9, nI_l (by omega), lN_add, show (1 : Int64) = lN 1 from rfl, lN_sub (by omega)]
  have c64 : (998 : Int64) < lN (x + mm - 1) ↔ 998 < x + mm - 1 := by
    rw [Int64.lt_iff_toInt_lt, show (lN (x + mm - 1)).toInt = ((x + mm - 1 : Nat) : Int) from lg_ofNat_toInt (by omega), show (998 : Int64).toInt = 998 by decide]
    omega
  by_cases h9 : 998 < x
  · refine ⟨fun _ => Or.inr (Or.inl ?_), fun _ => Or.inr (Or.inl ?_)⟩
    · rw [e64]; exact c64.mpr (by omega)
    · exact (lt_nI (a := 998) (by decide) hx9).mpr h9
  have e32 : nI x + m - 1 = nI (x + mm - 1) := by
    rw [hm, nI_add, show (1 : Int32) = nI 1 from rfl, nI_sb (by omega)]
  have e32t : nI (x + mm - 1) - t = nI (x + mm - 1 - tt) := by rw [ht, nI_sb (by omega)]
  have e64t : lN (x + mm - 1) - t.toInt64 = lN (x + mm - 1 - tt) := by rw [ht, nI_l (by omega), lN_sub (by omega)]
  have cw : w < nI (x + mm - 1 - tt) ↔ w.toInt64 < lN (x + mm - 1 - tt) := by
    rw [Int32.lt_iff_toInt_lt, Int64.lt_iff_toInt_lt, nI_toInt (by omega), show (lN (x + mm - 1 - tt)).toInt = ((x + mm - 1 - tt : Nat) : Int) from lg_ofNat_toInt (by omega), Int32.toInt_toInt64]
  unfold lvC lvR
  rw [e32, e32t, e64, e64t, ← cw, c64]
  have hc : (998 : Int32) < nI (x + mm - 1) ↔ 998 < x + mm - 1 := lt_nI (a := 998) (by decide) (by omega)
  rw [hc]
  refine ⟨fun q => q.elim Or.inl (fun q => q.elim (fun q => absurd ((lt_nI (a := 998) (by decide) hx9).mp q) h9) (fun q => Or.inr q)), fun q => q.elim Or.inl (fun q => Or.inr (Or.inr q))⟩
/-- a row of the class and of the reference, as far as it counts -/
def RWq (A B : Nat → Nat → Int32) (n i : Nat) : Prop := ∀ k, k < n → A i k = V B i k
/-- the two camps hold the same -/
def Same (A B : Nat → Nat → Int32) (nc ns nz nb nr t : Nat) : Prop := CI A nc ns nz nb nr t ∧ CR B nc ns nz nb nr t ∧ (RWq A B nc 3 ∧ RWq A B nc 4 ∧ RWq A B nc 5) ∧ (RWq A B ns 7 ∧ RWq A B ns 8) ∧ (RWq A B nz 10 ∧ RWq A B nz 11 ∧ RWq A B nz 12 ∧ RWq A B nz 13 ∧ RWq A B nz 14) ∧ (RWq A B nb 16 ∧ RWq A B nb 17 ∧ RWq A B nb 18 ∧ RWq A B nb 19 ∧ RWq A B nb 20 ∧ RWq A B nb 21) ∧ (RWq A B nr 23 ∧ RWq A B nr 24 ∧ RWq A B nr 25 ∧ RWq A B nr 26 ∧ RWq A B nr 27)
/-- the camp is as calls leave it -/
def Inv (A : Nat → Nat → Int32) (nc ns nb nr t : Nat) : Prop :=
  (∀ k, k < nc → 0 ≤ A 5 k) ∧
  (∀ k, k < nb → ∃ c a d : Nat, A 16 k = nI c ∧ c < nc ∧ A 17 k = nI a ∧ A 18 k = nI d ∧ a < d ∧ d ≤ 999 ∧ (A 20 k = 0 → t ≤ a) ∧ (A 20 k = 1 → a ≤ t ∧ t < d ∧ ∃ s, s < ns ∧ A 21 k = nI s ∧ A 7 s = A 16 k ∧ A 8 s ≤ nI t)) ∧
  (∀ j k, j < nb → k < nb → A 20 j = 1 → A 20 k = 1 → A 21 j = A 21 k → j = k) ∧
  (∀ (c : Int32) (d : Nat), t ≤ d → d ≤ 998 → cnt (tkB (A 16) (A 17) (A 18) (A 20) c (nI d)) nb ≤ cnt (opB (A 7) (A 8) c (nI d)) ns) ∧
  (∀ k, k < nr → ∃ a m : Nat, a ≤ 998 ∧ 1 ≤ m ∧ m ≤ 28 ∧ A 24 k = nI a ∧ A 25 k = nI m)
section Side
variable {A B : Nat → Nat → Int32} {nc ns nz nb nr t : Nat}
theorem s_tk (h : Same A B nc ns nz nb nr t) (c d : Int32) : cnt (tkB (A 16) (A 17) (A 18) (A 20) c d) nb = cnt (tkB (V B 16) (V B 17) (V B 18) (V B 20) c d) nb := by
  obtain ⟨-, -, -, -, -, ⟨h1, h2, h3, -, h5, -⟩, -⟩ := h
  exact cnt_cg (fun k hk => by unfold tkB; rw [h1 k hk, h2 k hk, h3 k hk, h5 k hk])
theorem s_op (h : Same A B nc ns nz nb nr t) (c d : Int32) : cnt (opB (A 7) (A 8) c d) ns = cnt (opB (V B 7) (V B 8) c d) ns := by
  obtain ⟨-, -, -, ⟨h1, h2⟩, -⟩ := h
  exact cnt_cg (fun k hk => by unfold opB; rw [h1 k hk, h2 k hk])
theorem s_se (h : Same A B nc ns nz nb nr t) (c d : Int32) : seasN (A 10) (A 11) (A 12) c d nz = seasN (V B 10) (V B 11) (V B 12) c d nz := by
  obtain ⟨-, -, -, -, ⟨h1, h2, h3, -, -⟩, -⟩ := h
  exact seas_cg (fun k hk => ⟨h1 k hk, h2 k hk, h3 k hk⟩)
theorem s_nz (h : Same A B nc ns nz nb nr t) : nz ≤ 12 := h.1.2.2.2.2.2.1
theorem s_mn (h : Same A B nc ns nz nb nr t) (c d : Int32) : sval (seasN (A 10) (A 11) (A 12) c d nz) (A 13) 1 = sval (seasN (V B 10) (V B 11) (V B 12) c d nz) (V B 13) 1 := by
  have hz := s_nz h
  rw [s_se h]
  exact sval_cg (seas_in _ _ _ c d nz) (by omega) h.2.2.2.2.1.2.2.2.1
theorem s_pr (h : Same A B nc ns nz nb nr t) (c d : Int32) : sval (seasN (A 10) (A 11) (A 12) c d nz) (A 14) 20 = sval (seasN (V B 10) (V B 11) (V B 12) c d nz) (V B 14) 20 := by
  have hz := s_nz h
  rw [s_se h]
  exact sval_cg (seas_in _ _ _ c d nz) (by omega) h.2.2.2.2.1.2.2.2.2
theorem s_opl (h : Same A B nc ns nz nb nr t) (c d : Int32) : cnt (opB (A 7) (A 8) c d) ns ≤ 16 := Nat.le_trans (cnt_le _ _) h.1.2.2.2.1
theorem s_tkl (h : Same A B nc ns nz nb nr t) (c d : Int32) : cnt (tkB (A 16) (A 17) (A 18) (A 20) c d) nb ≤ 60 := Nat.le_trans (cnt_le _ _) h.1.2.2.2.2.2.2.2.1
theorem s_t (h : Same A B nc ns nz nb nr t) : A 1 5 = B 64 0 := h.1.2.2.2.2.2.2.2.2.2.2.1.trans h.2.1.2.2.2.2.2.2.2.2.2.2.1.symm
theorem s_rel (h : Same A B nc ns nz nb nr t) {kc : Nat} (hk : kc < nc) (c d : Int32) : relC (A 1 5) (A 3 kc) (A 4 kc) (A 5 kc) (nI (cnt (opB (A 7) (A 8) c d) ns)) d = rlV B ns kc c d := by
  rw [rl_eq (s_opl h c d), s_op h c d, s_t h, h.2.2.1.1 kc hk, h.2.2.1.2.1 kc hk, h.2.2.1.2.2 kc hk]
  rfl
theorem s_fr (h : Same A B nc ns nz nb nr t) (hi : Inv A nc ns nb nr t) {kc : Nat} (hk : kc < nc) (c d : Int32) : frC A kc ns nb c d = frR B ns nb kc c d := by
  unfold frC frR
  rw [s_rel h hk]
  have e := s_rel h hk c d
  rw [rl_eq (s_opl h c d)] at e
  obtain ⟨r, hr, er⟩ := rl_nat (t := A 1 5) (w := A 3 kc) (s := A 4 kc) (q := A 5 kc) (d := d) (s_opl h c d) (hi.1 kc hk)
  rw [er] at e
  rw [← e]
  have e2 : avV B ns nb kc c d = if 0 < nI r - nI (cnt (tkB (A 16) (A 17) (A 18) (A 20) c d) nb) then nI r - nI (cnt (tkB (A 16) (A 17) (A 18) (A 20) c d) nb) else 0 := by
    unfold avV
    rw [← e, s_tk h]
  rw [e2]
  exact decide_eq_decide.mpr (fr_eq hr (s_tkl h c d))
end Side
