theorem rl_le {t w s q d : Int32} {op : Nat} (hop : op ≤ 16) (hq : 0 ≤ q) : ∃ r, r ≤ op ∧ relC t w s q (nI op) d = nI r := by
  unfold relC
  split
  · exact ⟨0, by omega, rfl⟩
  · split
    · exact ⟨op, Nat.le_refl _, rfl⟩
    · rename_i h1
      have h0 : ¬ limF w s q (d - t) < 0 := by
        unfold limF
        split
        · decide
        · split
          · decide
          · exact Int32.not_lt.mpr hq
      obtain ⟨l, hl, e⟩ := nI_of h0
      rw [e] at h1 ⊢
      exact ⟨l, le_of_nlt rfl rfl (by omega) hl h1, rfl⟩
theorem all_t {p : Nat → Bool} {a k : Nat} (h : allN p a k = true) {i : Nat} (hi : i < k) : p (a + i) = true := by
  cases e : p (a + i) with
  | true => rfl
  | false => rw [all_bad e hi] at h; cases h
section Invs2
variable {A B : Nat → Nat → Int32} {nc ns nz nb nr t : Nat}
theorem fr_lt (hi : Inv A nc ns nb nr t) (hs : ns ≤ 16) (hb : nb ≤ 60) {kc : Nat} (hk : kc < nc) {c d : Int32} (h : frC A kc ns nb c d = true) : cnt (tkB (A 16) (A 17) (A 18) (A 20) c d) nb < cnt (opB (A 7) (A 8) c d) ns := by
  unfold frC at h
  obtain ⟨h1, h2⟩ := of_decide_eq_true h
  have hop : cnt (opB (A 7) (A 8) c d) ns ≤ 16 := Nat.le_trans (cnt_le _ _) hs
  have htk : cnt (tkB (A 16) (A 17) (A 18) (A 20) c d) nb ≤ 60 := Nat.le_trans (cnt_le _ _) hb
  obtain ⟨r, hr, e⟩ := rl_le (t := A 1 5) (w := A 3 kc) (s := A 4 kc) (q := A 5 kc) (d := d) hop (hi.1 kc hk)
  rw [e] at h2
  have := (lt_nI (by omega) (by omega)).mp h2
  omega
theorem iv_book (hi : Inv A nc ns nb nr t) (hs : ns ≤ 16) (hb : nb ≤ 60) (ht : t ≤ 999) {kc x mm : Nat} (hk : kc < nc) (hx : t ≤ x) (hm : 1 ≤ mm) (hx9 : x + mm ≤ 999) (p : Int32) (hfr : ∀ i, i < mm → frC A kc ns nb (nI kc) (nI (x + i)) = true) : Inv (addB A nb (nI kc) (nI x) (nI (x + mm)) p) nc ns (nb + 1) nr t := by
  obtain ⟨h1, h2, h3, h4, h5⟩ := id hi
  refine ⟨h1, fun k hk2 => ?_, fun i j hi2 hj q1 q2 q3 => ?_, fun c d hd hd9 => ?_, h5⟩
  · show ∃ c a d : Nat, upd (A 16) nb (nI kc) k = nI c ∧ c < nc ∧ upd (A 17) nb (nI x) k = nI a ∧ upd (A 18) nb (nI (x + mm)) k = nI d ∧ a < d ∧ d ≤ 999 ∧ (upd (A 20) nb 0 k = 0 → t ≤ a) ∧ (upd (A 20) nb 0 k = 1 → a ≤ t ∧ t < d ∧ ∃ s, s < ns ∧ upd (A 21) nb (-1) k = nI s ∧ A 7 s = upd (A 16) nb (nI kc) k ∧ A 8 s ≤ nI t)
    by_cases e : k = nb
    · subst e
      refine ⟨kc, x, x + mm, upd_s, hk, upd_s, upd_s, by omega, hx9, fun _ => hx, fun q => ?_⟩
      rw [upd_s] at q; exact absurd q (by decide)
    · rw [upd_n e, upd_n e, upd_n e, upd_n e, upd_n e]
      exact h2 k (by omega)
  · have i1 : i ≠ nb := fun e => by subst e; rw [show addB A i (nI kc) (nI x) (nI (x + mm)) p 20 i = 0 from upd_s] at q1; exact absurd q1 (by decide)
    have j1 : j ≠ nb := fun e => by subst e; rw [show addB A j (nI kc) (nI x) (nI (x + mm)) p 20 j = 0 from upd_s] at q2; exact absurd q2 (by decide)
    have e20 : ∀ y, y ≠ nb → addB A nb (nI kc) (nI x) (nI (x + mm)) p 20 y = A 20 y := fun y hy => upd_n hy
    have e21 : ∀ y, y ≠ nb → addB A nb (nI kc) (nI x) (nI (x + mm)) p 21 y = A 21 y := fun y hy => upd_n hy
    rw [e20 i i1] at q1
    rw [e20 j j1] at q2
    rw [e21 i i1, e21 j j1] at q3
    exact h3 i j (by omega) (by omega) q1 q2 q3
  · show cnt (tkB (upd (A 16) nb (nI kc)) (upd (A 17) nb (nI x)) (upd (A 18) nb (nI (x + mm))) (upd (A 20) nb 0) c (nI d)) (nb + 1) ≤ cnt (opB (A 7) (A 8) c (nI d)) ns
    have e : cnt (tkB (upd (A 16) nb (nI kc)) (upd (A 17) nb (nI x)) (upd (A 18) nb (nI (x + mm))) (upd (A 20) nb 0) c (nI d)) nb = cnt (tkB (A 16) (A 17) (A 18) (A 20) c (nI d)) nb := cnt_cg (fun j hj => by unfold tkB; rw [upd_n (by omega), upd_n (by omega), upd_n (by omega), upd_n (by omega)])
    have h0 := h4 c d hd hd9
    cases q : tkB (upd (A 16) nb (nI kc)) (upd (A 17) nb (nI x)) (upd (A 18) nb (nI (x + mm))) (upd (A 20) nb 0) c (nI d) nb with
    | false => rw [cnt_f q, e]; exact h0
    | true =>
      rw [cnt_t q, e]
      unfold tkB at q
      have q2 := of_decide_eq_true q
      rw [upd_s, upd_s, upd_s] at q2
      obtain ⟨g1, g2, g3, -⟩ := q2
      have l1 := (le_nI (by omega) (by omega)).mp g1
      have l2 := (lt_nI (by omega) (by omega)).mp g2
      have hf := hfr (d - x) (by omega)
      rw [show x + (d - x) = d by omega, g3] at hf
      exact fr_lt hi hs hb hk hf
theorem iv_ext (hi : Inv A nc ns nb nr t) (hs : ns ≤ 16) (hb : nb ≤ 60) (ht : t ≤ 999) {k kc x mm : Nat} (hk2 : k < nb) (hk : kc < nc) (ek : A 16 k = nI kc) (ex : A 18 k = nI x) (hx9 : x + mm ≤ 999) (v : Int32) (hfr : ∀ i, i < mm → frC A kc ns nb (nI kc) (nI (x + i)) = true) : Inv (updM (updM A 18 (upd (A 18) k (nI (x + mm)))) 19 (upd (A 19) k v)) nc ns nb nr t := by
  obtain ⟨h1, h2, h3, h4, h5⟩ := id hi
  refine ⟨h1, fun j hj => ?_, h3, fun c d hd hd9 => ?_, h5⟩
  · show ∃ c a d : Nat, A 16 j = nI c ∧ c < nc ∧ A 17 j = nI a ∧ upd (A 18) k (nI (x + mm)) j = nI d ∧ a < d ∧ d ≤ 999 ∧ (A 20 j = 0 → t ≤ a) ∧ (A 20 j = 1 → a ≤ t ∧ t < d ∧ ∃ s, s < ns ∧ A 21 j = nI s ∧ A 7 s = A 16 j ∧ A 8 s ≤ nI t)
    by_cases e : j = k
    · subst e
      obtain ⟨c, a, d, e1, e2, e3, e4, e5, e6, e7, e8⟩ := h2 j hj
      have hxd : x = d := by
        have := ex.symm.trans e4
        exact Classical.byContradiction (fun q => absurd ((nI_eq (by omega) (by omega)).mp this) q)
      subst hxd
      refine ⟨c, a, x + mm, e1, e2, e3, upd_s, by omega, hx9, e7, fun q => ?_⟩
      obtain ⟨g1, g2, g3⟩ := e8 q
      exact ⟨g1, by omega, g3⟩
    · rw [upd_n e]; exact h2 j hj
  · show cnt (tkB (A 16) (A 17) (upd (A 18) k (nI (x + mm))) (A 20) c (nI d)) nb ≤ cnt (opB (A 7) (A 8) c (nI d)) ns
    have h0 := h4 c d hd hd9
    by_cases hc : tkB (A 16) (A 17) (upd (A 18) k (nI (x + mm))) (A 20) c (nI d) k = true ∧ tkB (A 16) (A 17) (A 18) (A 20) c (nI d) k = false
    · rw [cnt_one hc.1 hc.2 hk2 (fun j _ e => by unfold tkB; rw [upd_n e])]
      have q1 := of_decide_eq_true (show decide (A 17 k ≤ nI d ∧ nI d < upd (A 18) k (nI (x + mm)) k ∧ A 16 k = c ∧ actP (A 20 k)) = true from hc.1)
      have q2 := of_decide_eq_false (show decide (A 17 k ≤ nI d ∧ nI d < A 18 k ∧ A 16 k = c ∧ actP (A 20 k)) = false from hc.2)
      rw [upd_s] at q1
      have l1 := (lt_nI (by omega) (by omega)).mp q1.2.1
      have l2 : x ≤ d := by
        rcases Nat.lt_or_ge d x with r | r
        · exact absurd ⟨q1.1, by rw [ex]; exact (lt_nI (by omega) (by omega)).mpr r, q1.2.2⟩ q2
        · exact r
      have hf := hfr (d - x) (by omega)
      rw [show x + (d - x) = d by omega, ← ek, q1.2.2.1] at hf
      exact fr_lt hi hs hb hk hf
    · refine Nat.le_trans (cnt_mono (fun j hj q => ?_)) h0
      by_cases e : j = k
      · subst e
        cases q3 : tkB (A 16) (A 17) (A 18) (A 20) c (nI d) j with
        | true => rfl
        | false => exact absurd ⟨q, q3⟩ hc
      · unfold tkB at q ⊢
        rw [upd_n e] at q
        exact q
end Invs2
