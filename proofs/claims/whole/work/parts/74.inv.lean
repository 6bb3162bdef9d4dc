theorem cnt_mono {p q : Nat → Bool} : ∀ {n : Nat}, (∀ k, k < n → p k = true → q k = true) → cnt p n ≤ cnt q n
  | 0, _ => Nat.le_refl _
  | n + 1, h => by
    have ih := cnt_mono (n := n) (fun k hk => h k (by omega))
    have hn := h n (by omega)
    unfold cnt
    split
    · rename_i q1; rw [if_pos (hn q1)]; omega
    · split <;> omega
theorem cnt_one {p q : Nat → Bool} {k : Nat} (hp : p k = true) (hq : q k = false) : ∀ {n : Nat}, k < n → (∀ j, j < n → j ≠ k → p j = q j) → cnt p n = cnt q n + 1
  | 0, h, _ => absurd h (by omega)
  | n + 1, h, hj => by
    by_cases e : k = n
    · subst e
      unfold cnt
      rw [if_pos hp, if_neg (by rw [hq]; decide), cnt_cg (fun j h2 => hj j (by omega) (by omega))]
    · have ih := cnt_one hp hq (n := n) (by omega) (fun j h1 h2 => hj j (by omega) h2)
      unfold cnt
      rw [ih, hj n (by omega) (fun q => e q.symm)]
      split <;> omega
theorem cnt_up (p : Nat → Bool) (n : Nat) : cnt p n ≤ cnt p (n + 1) := by
  by_cases h : p n = true
  · rw [cnt_t h]; omega
  · rw [cnt_f (by simpa using h)]; exact Nat.le_refl _
/-- the counts and the invariant, as far as they are not named -/
def St (A B : Nat → Nat → Int32) : Prop := ∃ nc ns nz nb nr t, Same A B nc ns nz nb nr t ∧ Inv A nc ns nb nr t
theorem inv_cg {A A' : Nat → Nat → Int32} {nc ns nb nr t : Nat} (h : Inv A nc ns nb nr t) (e5 : A' 5 = A 5) (e7 : A' 7 = A 7) (e8 : A' 8 = A 8) (e16 : A' 16 = A 16) (e17 : A' 17 = A 17) (e18 : A' 18 = A 18) (e20 : A' 20 = A 20) (e21 : A' 21 = A 21) (e24 : A' 24 = A 24) (e25 : A' 25 = A 25) : Inv A' nc ns nb nr t := by
  unfold Inv at h ⊢
  rw [e5, e7, e8, e16, e17, e18, e20, e21, e24, e25]
  exact h
section Invs
variable {A B : Nat → Nat → Int32} {nc ns nz nb nr t : Nat}
theorem iv_addClass (h : Inv A nc ns nb nr t) (w s q : Int32) (hq : 0 ≤ q) : Inv (addC A nc w s q) (nc + 1) ns nb nr t := by
  obtain ⟨h1, h2, h3, h4, h5⟩ := h
  refine ⟨fun k hk => ?_, fun k hk => ?_, h3, h4, h5⟩
  · show 0 ≤ upd (A 5) nc q k
    by_cases e : k = nc
    · subst e; rw [upd_s]; exact hq
    · rw [upd_n e]; exact h1 k (by omega)
  · obtain ⟨c, a, d, e1, e2, e3⟩ := h2 k hk
    exact ⟨c, a, d, e1, by omega, e3⟩
theorem iv_addSite (h : Inv A nc ns nb nr t) (c : Int32) : Inv (addS A ns c) nc (ns + 1) nb nr t := by
  obtain ⟨h1, h2, h3, h4, h5⟩ := h
  refine ⟨h1, fun k hk => ?_, h3, fun x d hd hd9 => ?_, h5⟩
  · obtain ⟨c', a, d, e1, e2, e3, e4, e5, e6, e7, e8⟩ := h2 k hk
    refine ⟨c', a, d, e1, e2, e3, e4, e5, e6, e7, fun q => ?_⟩
    obtain ⟨g1, g2, s, g3, g4, g5, g6⟩ := e8 q
    refine ⟨g1, g2, s, by omega, g4, ?_, ?_⟩
    · show upd (A 7) ns c s = A 16 k
      rw [upd_n (by omega)]; exact g5
    · show upd (A 8) ns 0 s ≤ nI t
      rw [upd_n (by omega)]; exact g6
  · have h0 := h4 x d hd hd9
    have e : cnt (opB (upd (A 7) ns c) (upd (A 8) ns 0) x (nI d)) ns = cnt (opB (A 7) (A 8) x (nI d)) ns := cnt_cg (fun j hj => by unfold opB; rw [upd_n (by omega), upd_n (by omega)])
    show cnt (tkB (A 16) (A 17) (A 18) (A 20) x (nI d)) nb ≤ cnt (opB (upd (A 7) ns c) (upd (A 8) ns 0) x (nI d)) (ns + 1)
    have := cnt_up (opB (upd (A 7) ns c) (upd (A 8) ns 0) x (nI d)) ns
    omega
theorem iv_request (h : Inv A nc ns nb nr t) {a m : Nat} (c : Int32) (ha : a ≤ 998) (hm1 : 1 ≤ m) (hm9 : m ≤ 28) : Inv (addR A nr c (nI a) (nI m)) nc ns nb (nr + 1) t := by
  obtain ⟨h1, h2, h3, h4, h5⟩ := h
  refine ⟨h1, h2, h3, h4, fun k hk => ?_⟩
  show ∃ a' m' : Nat, a' ≤ 998 ∧ 1 ≤ m' ∧ m' ≤ 28 ∧ upd (A 24) nr (nI a) k = nI a' ∧ upd (A 25) nr (nI m) k = nI m'
  by_cases e : k = nr
  · subst e; exact ⟨a, m, ha, hm1, hm9, upd_s, upd_s⟩
  · rw [upd_n e, upd_n e]; exact h5 k (by omega)
/-- active bookings stay, less of them -/
theorem iv_less (h : Inv A nc ns nb nr t) {A' : Nat → Nat → Int32} (e5 : A' 5 = A 5) (e7 : A' 7 = A 7) (e8 : A' 8 = A 8) (e16 : A' 16 = A 16) (e17 : A' 17 = A 17) (e21 : A' 21 = A 21) (e24 : A' 24 = A 24) (e25 : A' 25 = A 25) {k : Nat} (hk : k < nb)
    (e20 : ∀ j, j ≠ k → A' 20 j = A 20 j) (e18 : ∀ j, j ≠ k → A' 18 j = A 18 j) (hst : ¬ actP (A' 20 k)) (hde : ∃ a d : Nat, A 17 k = nI a ∧ A' 18 k = nI d ∧ a < d ∧ d ≤ 999) : Inv A' nc ns nb nr t := by
  obtain ⟨h1, h2, h3, h4, h5⟩ := h
  unfold Inv
  rw [e5, e7, e8, e16, e17, e21, e24, e25]
  have n1 : ¬ A' 20 k = 1 := fun q => hst (Or.inr q)
  have n0 : ¬ A' 20 k = 0 := fun q => hst (Or.inl q)
  refine ⟨h1, fun j hj => ?_, fun i j hi hj q1 q2 q3 => ?_, fun c d hd hd9 => ?_, h5⟩
  · by_cases e : j = k
    · subst e
      obtain ⟨c, -, -, c1, c2, -⟩ := h2 j hj
      obtain ⟨a, d, g1, g2, g3, g4⟩ := hde
      exact ⟨c, a, d, c1, c2, g1, g2, g3, g4, fun q => absurd q n0, fun q => absurd q n1⟩
    · rw [e20 j e, e18 j e]; exact h2 j hj
  · have i1 : i ≠ k := fun e => n1 (e ▸ q1)
    have j1 : j ≠ k := fun e => n1 (e ▸ q2)
    exact h3 i j hi hj (by rw [← e20 i i1]; exact q1) (by rw [← e20 j j1]; exact q2) q3
  · refine Nat.le_trans (cnt_mono (fun j hj q => ?_)) (h4 c d hd hd9)
    unfold tkB at q ⊢
    rw [decide_eq_true_eq] at q ⊢
    by_cases e : j = k
    · subst e; exact absurd q.2.2.2 hst
    · rw [e20 j e, e18 j e] at q; exact q
theorem iv_cancel (h : Inv A nc ns nb nr t) {k : Nat} (hk : k < nb) (u : Int32) : Inv (updM (updM A 19 (upd (A 19) k u)) 20 (upd (A 20) k 3)) nc ns nb nr t := by
  obtain ⟨c, a, d, -, -, g1, g2, g3, g4, -⟩ := h.2.1 k hk
  exact iv_less h rfl rfl rfl rfl rfl rfl rfl rfl hk (fun j hj => upd_n hj) (fun j _ => rfl) (by show ¬ actP (upd (A 20) k 3 k); rw [upd_s]; exact fun q => q.elim (by decide) (by decide)) ⟨a, d, g1, g2, g3, g4⟩
theorem iv_depart (h : Inv A nc ns nb nr t) {k : Nat} (hk : k < nb) (v : Int32) {a d : Nat} (ha : A 17 k = nI a) (had : a < d) (hd : d ≤ 999) : Inv (updM (updM (updM A 19 (upd (A 19) k v)) 18 (upd (A 18) k (nI d))) 20 (upd (A 20) k 2)) nc ns nb nr t :=
  iv_less h rfl rfl rfl rfl rfl rfl rfl rfl hk (fun j hj => upd_n hj) (fun j hj => upd_n hj) (by show ¬ actP (upd (A 20) k 2 k); rw [upd_s]; exact fun q => q.elim (by decide) (by decide)) ⟨a, d, ha, upd_s, had, hd⟩
theorem any_f {p : Nat → Bool} {n : Nat} (h : anyB p n = false) {k : Nat} (hk : k < n) : p k = false := by
  cases e : p k with
  | false => rfl
  | true => rw [any_hit e hk] at h; cases h
/-- a booking stays at a site that is vacant -/
theorem iv_stay (h : Inv A nc ns nb nr t) {A' : Nat → Nat → Int32} (e5 : A' 5 = A 5) (e7 : A' 7 = A 7) (e8 : A' 8 = A 8) (e16 : A' 16 = A 16) (e17 : A' 17 = A 17) (e18 : A' 18 = A 18) (e24 : A' 24 = A 24) (e25 : A' 25 = A 25) {k s : Nat} (hk : k < nb) (hs : s < ns)
    (e20 : ∀ j, j ≠ k → A' 20 j = A 20 j) (e21 : ∀ j, j ≠ k → A' 21 j = A 21 j) (hk20 : A' 20 k = 1) (hk21 : A' 21 k = nI s) (hact : actP (A 20 k)) (hcl : A 7 s = A 16 k) (hop : A 8 s ≤ nI t) (hno : anyB (sbB (A 20) (A 21) (nI s)) nb = false) (hin : ∃ a d : Nat, A 17 k = nI a ∧ A 18 k = nI d ∧ a ≤ t ∧ t < d ∧ d ≤ 999) : Inv A' nc ns nb nr t := by
  obtain ⟨h1, h2, h3, h4, h5⟩ := h
  unfold Inv
  rw [e5, e7, e8, e16, e17, e18, e24, e25]
  have hvac : ∀ j, j < nb → j ≠ k → A' 20 j = 1 → ¬ A' 21 j = nI s := by
    intro j hj e q1 q2
    rw [e20 j e] at q1
    rw [e21 j e] at q2
    have := any_f hno hj
    unfold sbB at this
    exact absurd ⟨q1, q2⟩ (of_decide_eq_false this)
  refine ⟨h1, fun j hj => ?_, fun i j hi hj q1 q2 q3 => ?_, fun c d hd hd9 => ?_, h5⟩
  · by_cases e : j = k
    · subst e
      obtain ⟨c, -, -, c1, c2, -⟩ := h2 j hj
      obtain ⟨a, d, g1, g2, g3, g4, g5⟩ := hin
      refine ⟨c, a, d, c1, c2, g1, g2, by omega, g5, fun q => ?_, fun _ => ⟨g3, g4, s, hs, hk21, hcl, hop⟩⟩
      rw [hk20] at q; exact absurd q (by decide)
    · rw [e20 j e, e21 j e]; exact h2 j hj
  · by_cases i1 : i = k
    · by_cases j1 : j = k
      · rw [i1, j1]
      · exact absurd (q3.symm.trans (by rw [i1]; exact hk21)) (hvac j hj j1 q2)
    · by_cases j1 : j = k
      · exact absurd (q3.trans (by rw [j1]; exact hk21)) (hvac i hi i1 q1)
      · exact h3 i j hi hj (by rw [← e20 i i1]; exact q1) (by rw [← e20 j j1]; exact q2) (by rw [← e21 i i1, ← e21 j j1]; exact q3)
  · rw [cnt_cg (q := tkB (A 16) (A 17) (A 18) (A 20) c (nI d)) (fun j hj => ?_)]
    · exact h4 c d hd hd9
    · unfold tkB
      by_cases e : j = k
      · subst e
        apply decide_eq_decide.mpr
        exact ⟨fun q => ⟨q.1, q.2.1, q.2.2.1, hact⟩, fun q => ⟨q.1, q.2.1, q.2.2.1, Or.inr hk20⟩⟩
      · rw [e20 j e]
theorem iv_open (h : Inv A nc ns nb nr t) {k : Nat} : Inv (updM A 8 (upd (A 8) k 0)) nc ns nb nr t := by
  obtain ⟨h1, h2, h3, h4, h5⟩ := h
  refine ⟨h1, fun j hj => ?_, h3, fun c d hd hd9 => ?_, h5⟩
  · obtain ⟨c, a, d, e1, e2, e3, e4, e5, e6, e7, e8⟩ := h2 j hj
    refine ⟨c, a, d, e1, e2, e3, e4, e5, e6, e7, fun q => ?_⟩
    obtain ⟨g1, g2, s, g3, g4, g5, g6⟩ := e8 q
    refine ⟨g1, g2, s, g3, g4, g5, ?_⟩
    show upd (A 8) k 0 s ≤ nI t
    by_cases e : s = k
    · subst e; rw [upd_s]; exact nI_pos' (by omega)
    · rw [upd_n e]; exact g6
  · refine Nat.le_trans (h4 c d hd hd9) (cnt_mono (fun j hj q => ?_))
    unfold opB at q ⊢
    rw [decide_eq_true_eq] at q ⊢
    refine ⟨q.1, ?_⟩
    show upd (A 8) k 0 j ≤ nI d
    by_cases e : j = k
    · subst e; rw [upd_s]; exact nI_pos' (by omega)
    · rw [upd_n e]; exact q.2
theorem iv_close (h : Inv A nc ns nb nr t) {k u : Nat} (hk : k < ns) (hu : u ≤ 999) (hop : A 8 k ≤ nI t) (hno : anyB (sbB (A 20) (A 21) (nI k)) nb = false) (hsp : ∀ d, t ≤ d → d < u → cnt (tkB (A 16) (A 17) (A 18) (A 20) (A 7 k) (nI d)) nb < cnt (opB (A 7) (A 8) (A 7 k) (nI d)) ns) (ht : t ≤ 999) : Inv (updM A 8 (upd (A 8) k (nI u))) nc ns nb nr t := by
  obtain ⟨h1, h2, h3, h4, h5⟩ := h
  refine ⟨h1, fun j hj => ?_, h3, fun c d hd hd9 => ?_, h5⟩
  · obtain ⟨c, a, d, e1, e2, e3, e4, e5, e6, e7, e8⟩ := h2 j hj
    refine ⟨c, a, d, e1, e2, e3, e4, e5, e6, e7, fun q => ?_⟩
    obtain ⟨g1, g2, s, g3, g4, g5, g6⟩ := e8 q
    refine ⟨g1, g2, s, g3, g4, g5, ?_⟩
    show upd (A 8) k (nI u) s ≤ nI t
    by_cases e : s = k
    · subst e
      have := any_f hno hj
      unfold sbB at this
      exact absurd ⟨q, g4⟩ (of_decide_eq_false this)
    · rw [upd_n e]; exact g6
  · show cnt (tkB (A 16) (A 17) (A 18) (A 20) c (nI d)) nb ≤ cnt (opB (A 7) (upd (A 8) k (nI u)) c (nI d)) ns
    have hkd : A 8 k ≤ nI d := Int32.le_trans hop ((le_nI (by omega) (by omega)).mpr hd)
    by_cases hc : A 7 k = c ∧ d < u
    · have hlt := hsp d hd hc.2
      rw [hc.1] at hlt
      have e : cnt (opB (A 7) (A 8) c (nI d)) ns = cnt (opB (A 7) (upd (A 8) k (nI u)) c (nI d)) ns + 1 := by
        refine cnt_one (k := k) ?_ ?_ hk (fun j hj e => ?_)
        · unfold opB; exact decide_eq_true ⟨hc.1, hkd⟩
        · unfold opB; rw [upd_s]; exact decide_eq_false (fun q => absurd ((le_nI (by omega) (by omega)).mp q.2) (by omega))
        · unfold opB; rw [upd_n e]
      omega
    · have e : cnt (opB (A 7) (A 8) c (nI d)) ns = cnt (opB (A 7) (upd (A 8) k (nI u)) c (nI d)) ns := by
        refine cnt_cg (fun j hj => ?_)
        unfold opB
        by_cases e : j = k
        · subst e
          rw [upd_s]
          apply decide_eq_decide.mpr
          refine ⟨fun q => ⟨q.1, (le_nI (by omega) (by omega)).mpr ?_⟩, fun q => ⟨q.1, hkd⟩⟩
          rcases Nat.lt_or_ge d u with r | r
          · exact absurd ⟨q.1, r⟩ hc
          · exact r
        · rw [upd_n e]
      rw [← e]
      exact h4 c d hd hd9
end Invs
