theorem nI_div {x y : Nat} (hx : x < 2 ^ 31) (hy : y < 2 ^ 31) : nI x / nI y = nI (x / y) := by
  have hd : x / y ≤ x := Nat.div_le_self x y
  apply Int32.toInt_inj.mp
  rw [Int32.toInt_div, nI_toInt hx, nI_toInt hy, nI_toInt (by omega), ← Int.ofNat_tdiv, Int.bmod_def]
  generalize x / y = q at hd ⊢
  split <;> omega
theorem nI_rem {x y : Nat} (hx : x < 2 ^ 31) (hy : y < 2 ^ 31) : nI x - nI x / nI y * nI y = nI (x % y) := by
  rw [nI_div hx hy, nI_mul, nI_sb (Nat.div_mul_le_self x y)]
  congr 1
  have := Nat.div_add_mod x y
  rw [Nat.mul_comm] at this
  omega
theorem gR_N : ∀ {f : Nat} {a b d : Int32}, gcdR f a b = some d → gcdN f a b = d
  | 0, a, b, d, h => by cases h
  | f + 1, a, b, d, h => by
    unfold gcdR at h
    unfold gcdN
    split
    · rename_i q; rw [if_pos q] at h; cases h; rfl
    · rename_i q; rw [if_neg q] at h; exact gR_N h
theorem nI_z {x : Nat} (hx : x < 2 ^ 31) : nI x = 0 ↔ x = 0 := nI_eq (b := 0) hx (by decide)
theorem gcd_ex : ∀ (k f x y : Nat), x < 2 ^ 31 → y < 2 ^ 31 → y < 2 ^ k → 2 * k + 1 ≤ f → ∃ d, d < 2 ^ 31 ∧ gcdR f (nI x) (nI y) = some (nI d) ∧ (¬ (x = 0 ∧ y = 0) → d ≠ 0)
  | 0, f, x, y, hx, hy, h, hf => by
    obtain ⟨g, rfl⟩ : ∃ g, f = g + 1 := ⟨f - 1, by omega⟩
    have : y = 0 := by simpa using h
    subst this
    exact ⟨x, hx, by unfold gcdR; rw [if_pos ((nI_z (by omega)).mpr rfl)], fun q e => q ⟨e, rfl⟩⟩
  | k + 1, f, x, y, hx, hy, h, hf => by
    obtain ⟨g, rfl⟩ : ∃ g, f = g + 2 := ⟨f - 2, by omega⟩
    by_cases y0 : y = 0
    · subst y0
      exact ⟨x, hx, by unfold gcdR; rw [if_pos ((nI_z (by omega)).mpr rfl)], fun q e => q ⟨e, rfl⟩⟩
    · have hr1 : x % y < y := Nat.mod_lt _ (by omega)
      have e1 : gcdR (g + 2) (nI x) (nI y) = gcdR (g + 1) (nI y) (nI (x % y)) := by
        rw [gcdR, if_neg (fun q => y0 ((nI_z hy).mp q)), nI_rem hx hy]
      by_cases r0 : x % y = 0
      · refine ⟨y, hy, ?_, fun _ => y0⟩
        rw [e1, r0]; unfold gcdR; rw [if_pos ((nI_z (by omega)).mpr rfl)]
      · have hr2 : y % (x % y) < x % y := Nat.mod_lt _ (by omega)
        have hq : 1 ≤ y / (x % y) := (Nat.le_div_iff_mul_le (by omega)).mpr (by omega)
        have hm := Nat.div_add_mod y (x % y)
        have hm2 : x % y ≤ (x % y) * (y / (x % y)) := Nat.le_mul_of_pos_right _ hq
        have hp : 2 ^ (k + 1) = 2 * 2 ^ k := by rw [Nat.pow_succ]; omega
        obtain ⟨d, d1, d2, d3⟩ := gcd_ex k g (x % y) (y % (x % y)) (by omega) (by omega) (by omega) (by omega)
        refine ⟨d, d1, ?_, fun _ => d3 (fun q => r0 q.1)⟩
        rw [e1, gcdR, if_neg (fun q => r0 ((nI_z (by omega)).mp q)), nI_rem hy (by omega)]
        exact d2
theorem psum_nat {f : Int32 → Int32} {m a : Nat} (h : ∀ d, ∃ v, v ≤ m ∧ f d = nI v) : ∀ k, ∃ s, s ≤ m * k ∧ psum f a k = nI s
  | 0 => ⟨0, by omega, rfl⟩
  | k + 1 => by
    obtain ⟨s, hs, e⟩ := psum_nat (a := a) h k
    obtain ⟨v, hv, e2⟩ := h (nI (a + k))
    refine ⟨s + v, by rw [Nat.mul_succ]; omega, ?_⟩
    unfold psum
    rw [e, e2, nI_add]
section Reads2
variable {A B : Nat → Nat → Int32} {nc ns nz nb nr t : Nat}
theorem s_any (h : Same A B nc ns nz nb nr t) (s : Int32) : anyB (sbB (A 20) (A 21) s) nb = anyB (sbB (V B 20) (V B 21) s) nb := by
  obtain ⟨-, -, -, -, -, ⟨-, -, -, -, h5, h6⟩, -⟩ := h
  exact any_cg (fun k hk => by unfold sbB; rw [h5 k hk, h6 k hk])
theorem s_va (h : Same A B nc ns nz nb nr t) (s : Int32) {k : Nat} (hk : k < ns) : (¬ A 1 5 < A 8 k ∧ anyB (sbB (A 20) (A 21) s) nb = false) ↔ vaV B nb s k = true := by
  unfold vaV
  rw [s_any h, s_t h, h.2.2.2.1.2 k hk, Bool.and_eq_true, decide_eq_true_eq, Bool.not_eq_true', Int32.not_lt]
theorem s_vac (h : Same A B nc ns nz nb nr t) (c : Int32) : fstN (fun k => decide (A 7 k = c ∧ (¬ A 1 5 < A 8 k ∧ anyB (sbB (A 20) (A 21) (nI k)) nb = false))) ns = fstN (fun k => decide (V B 7 k = c) && vaV B nb (nI k) k) ns := by
  refine fst_cg (fun k hk => ?_)
  have := s_va h (nI k) hk
  rw [h.2.2.2.1.1 k hk]
  by_cases q : vaV B nb (nI k) k = true
  · have q2 := this.mpr q
    rw [q]; simp [q2]
  · have q2 : ¬ (¬ A 1 5 < A 8 k ∧ anyB (sbB (A 20) (A 21) (nI k)) nb = false) := fun r => q (this.mp r)
    rw [show vaV B nb (nI k) k = false by simpa using q, Bool.and_false]
    exact decide_eq_false (fun r => q2 r.2)
theorem q_vacantSite (h : Same A B nc ns nz nb nr t) (c : Int32) : cd_vacantSite A c = cr_vacantSite B c ∧ (cr_vacantSite B c = 0 → fstN (fun k => decide (A 7 k = c ∧ (¬ A 1 5 < A 8 k ∧ anyB (sbB (A 20) (A 21) (nI k)) nb = false))) ns = fstN (fun k => decide (V B 7 k = c) && vaV B (nbR B) (nI k) k) (nsR B)) :=
  ⟨ifc (k_cls h c) rfl (fun _ => rfl), fun _ => by rw [(s_ns h).1, (s_nb h).1]; exact s_vac h c⟩
theorem q_expected (h : Same A B nc ns nz nb nr t) (c d e : Int32) : cd_expected A c d e = cr_expected B c d e ∧ (cr_expected B c d e = 0 → nI (cnt (exB (A 16) (A 17) (A 18) (A 20) c d e) (nbM A)) = nI (cnt (exB (V B 16) (V B 17) (V B 18) (V B 20) c d e) (nbR B))) := by
  refine ⟨ifc ?_ rfl (fun _ => ifc (k_rg 0 999 d) rfl (fun _ => rfl)), fun _ => ?_⟩
  · rw [k_cls h c]
    exact ⟨fun q r => r.elim q.1 q.2, fun q => ⟨fun r => q (Or.inl r), fun r => q (Or.inr r)⟩⟩
  · rw [(s_nb h).1, (s_nb h).2]
    obtain ⟨-, -, -, -, -, ⟨h1, h2, h3, -, h5, -⟩, -⟩ := h
    exact congrArg nI (cnt_cg (fun k hk => by unfold exB; rw [h1 k hk, h2 k hk, h3 k hk, h5 k hk]))
theorem q_dearestBooking (h : Same A B nc ns nz nb nr t) (hi : Inv A nc ns nb nr t) (c : Int32) : cd_dearestBooking A c = cr_dearestBooking B c ∧ (cr_dearestBooking B c = 0 → bestN (fun b => decide (actP (A 20 b) ∧ A 16 b = c)) (fun k b => decide ((A 19 b).toInt64 * (A 18 k - A 17 k).toInt64 < (A 19 k).toInt64 * (A 18 b - A 17 b).toInt64)) (nbM A) = bestN (fun b => decide (actP (V B 20 b) ∧ V B 16 b = c)) (fun k b => decide ((V B 19 b).toInt64 * ((V B 18 k).toInt64 - (V B 17 k).toInt64) < (V B 19 k).toInt64 * ((V B 18 b).toInt64 - (V B 17 b).toInt64))) (nbR B)) := by
  refine ⟨ifc (k_cls h c) rfl (fun _ => rfl), fun _ => ?_⟩
  rw [(s_nb h).1, (s_nb h).2]
  have hl : nb ≤ 60 := h.1.2.2.2.2.2.2.2.1
  obtain ⟨-, -, -, -, -, ⟨h1, h2, h3, h4, h5, -⟩, -⟩ := h
  have key : ∀ k, k < nb → (A 18 k - A 17 k).toInt64 = (V B 18 k).toInt64 - (V B 17 k).toInt64 := by
    intro k hk
    obtain ⟨c, a, d, -, -, e1, e2, lt, l9, -⟩ := hi.2.1 k hk
    rw [← h2 k hk, ← h3 k hk, e1, e2, nI_sb (by omega), nI_l (by omega), nI_l (by omega), nI_l (by omega), lN_sub (by omega)]
  refine best_cg (by omega) (fun k hk => by rw [h1 k hk, h5 k hk]) (fun k b hk hb => ?_)
  rw [key k hk, key b hb, h4 k hk, h4 b hb]
theorem q_busiestNight (h : Same A B nc ns nz nb nr t) (c f l : Int32) : cd_busiestNight A c f l = cr_busiestNight B c f l ∧ (cr_busiestNight B c f l = 0 → nI (bsyN (fun i => nI (cnt (tkB (A 16) (A 17) (A 18) (A 20) c (nI i)) (nbM A))) f.toNatClampNeg (l.toNatClampNeg - f.toNatClampNeg)) = nI (bsyN (fun i => nI (cnt (tkB (V B 16) (V B 17) (V B 18) (V B 20) c (nI i)) (nbR B))) f.toNatClampNeg (l.toNatClampNeg - f.toNatClampNeg))) := by
  refine ⟨ifc (k_cls h c) rfl (fun _ => ifc ?_ rfl (fun _ => rfl)), fun _ => ?_⟩
  · rw [s_t h, k_rg, k_rg]; exact Classical.not_and_iff_not_or_not.symm
  · rw [(s_nb h).1, (s_nb h).2]
    have e : (fun i => nI (cnt (tkB (A 16) (A 17) (A 18) (A 20) c (nI i)) nb)) = fun i => nI (cnt (tkB (V B 16) (V B 17) (V B 18) (V B 20) c (nI i)) nb) := funext (fun i => by rw [s_tk h])
    rw [e]
theorem q_revenue (h : Same A B nc ns nz nb nr t) : sumK (A 19) nb = sumK (V B 19) (nbR B) := by
  rw [(s_nb h).1]
  exact sum_cg h.2.2.2.2.2.1.2.2.2.1
theorem s_tkS (h : Same A B nc ns nz nb nr t) (c : Int32) (a b : Nat) : tkS A c a b = tkV B nb c a (b + 1 - a) := by
  unfold tkS tkV
  rw [(s_nb h).2]
  have e : (fun d => nI (cnt (tkB (A 16) (A 17) (A 18) (A 20) c d) nb)) = fun d => nI (cnt (tkB (V B 16) (V B 17) (V B 18) (V B 20) c d) nb) := funext (fun d => by rw [s_tk h])
  rw [e]
theorem s_cpS (h : Same A B nc ns nz nb nr t) (c : Int32) (a b : Nat) : cpS A c a b = cpV B ns c a (b + 1 - a) := by
  unfold cpS cpV
  rw [(s_ns h).2]
  have e : (fun d => capF (A 1 5) (nI (cnt (opB (A 7) (A 8) c d) ns)) d) = fun d => if B 64 0 ≤ d ∧ d ≤ 998 then nI (cnt (opB (V B 7) (V B 8) c d) ns) else 0 := funext (fun d => s_cap h c d)
  rw [e]
theorem s_gcd (h : Same A B nc ns nz nb nr t) (c : Int32) {a b : Nat} (hb : b ≤ 998) : ∃ D, gcdR 64 (tkV B nb c a (b + 1 - a)) (cpV B ns c a (b + 1 - a)) = some D ∧ (¬ tkV B nb c a (b + 1 - a) = 0 → ¬ D = 0) := by
  have hbl : nb ≤ 60 := h.1.2.2.2.2.2.2.2.1
  have hsl : ns ≤ 16 := h.1.2.2.2.1
  obtain ⟨x, hx, ex⟩ := psum_nat (f := fun d => nI (cnt (tkB (V B 16) (V B 17) (V B 18) (V B 20) c d) nb)) (m := 60) (a := a) (fun d => ⟨_, Nat.le_trans (cnt_le _ _) hbl, rfl⟩) (b + 1 - a)
  obtain ⟨y, hy, ey⟩ := psum_nat (f := fun d => if B 64 0 ≤ d ∧ d ≤ 998 then nI (cnt (opB (V B 7) (V B 8) c d) ns) else 0) (m := 16) (a := a) (fun d => by
    split
    · exact ⟨_, Nat.le_trans (cnt_le _ _) hsl, rfl⟩
    · exact ⟨0, by omega, rfl⟩) (b + 1 - a)
  have hx2 : x ≤ 60 * 999 := Nat.le_trans hx (Nat.mul_le_mul_left 60 (by omega))
  have hy2 : y ≤ 16 * 999 := Nat.le_trans hy (Nat.mul_le_mul_left 16 (by omega))
  unfold tkV cpV
  rw [ex, ey]
  obtain ⟨d, d1, d2, d3⟩ := gcd_ex 14 64 x y (by omega) (by omega) (by omega) (by omega)
  exact ⟨nI d, d2, fun q e => d3 (fun r => q ((nI_z (by omega)).mpr r.1)) ((nI_z d1).mp e)⟩
theorem s_occ (h : Same A B nc ns nz nb nr t) (c f l e : Int32) : (if (c < 0 ∨ A 2 3 ≤ c) then 1 else if ((f < A 1 5 ∨ 998 < f) ∨ (l < f ∨ 998 < l)) then 2 else 0) = cr_occupancy B c f l e := by
  refine ifc (k_cls h c) rfl (fun _ => ifc ?_ rfl (fun _ => rfl))
  rw [s_t h, k_rg, k_rg]; exact Classical.not_and_iff_not_or_not.symm
theorem q_occ (h : Same A B nc ns nz nb nr t) (c f l e : Int32) : ∃ D, cr_occupancy B c f l e = 0 → gcdR 64 (tkV B (nbR B) c f.toNatClampNeg (l.toNatClampNeg + 1 - f.toNatClampNeg)) (cpV B (nsR B) c f.toNatClampNeg (l.toNatClampNeg + 1 - f.toNatClampNeg)) = some D ∧ (¬ tkV B (nbR B) c f.toNatClampNeg (l.toNatClampNeg + 1 - f.toNatClampNeg) = 0 → ¬ D = 0) := by
  by_cases q : cr_occupancy B c f l e = 0
  · obtain ⟨q1, q2⟩ := if0 (by decide) q
    have q3 := Classical.not_not.mp (if0 (by decide) q2).1
    have ht := h.2.1.2.2.2.2.2.2.2.2.2.2
    obtain ⟨a, -, ha9, ea⟩ := rng_of ht.1 (by omega) (show (998 : Int32) = nI 998 from rfl) (by decide) q3.1
    obtain ⟨b, -, hb, eb⟩ := rng_of ea (by omega) (show (998 : Int32) = nI 998 from rfl) (by decide) q3.2
    obtain ⟨D, hD⟩ := s_gcd h c (a := f.toNatClampNeg) hb
    refine ⟨D, fun _ => ?_⟩
    rw [(s_nb h).1, (s_ns h).1, cl_of eb (by omega)]
    exact hD
  · exact ⟨0, fun r => absurd r q⟩
theorem q_occN (h : Same A B nc ns nz nb nr t) (c f l : Int32) {D : Int32} (hc : cr_occupancy B c f l 1 = 0) (hD : gcdR 64 (tkV B (nbR B) c f.toNatClampNeg (l.toNatClampNeg + 1 - f.toNatClampNeg)) (cpV B (nsR B) c f.toNatClampNeg (l.toNatClampNeg + 1 - f.toNatClampNeg)) = some D ∧ (¬ tkV B (nbR B) c f.toNatClampNeg (l.toNatClampNeg + 1 - f.toNatClampNeg) = 0 → ¬ D = 0)) :
    (if (tkS A c f.toNatClampNeg l.toNatClampNeg) = 0 ∨ gcdN 64 (tkS A c f.toNatClampNeg l.toNatClampNeg) (cpS A c f.toNatClampNeg l.toNatClampNeg) = 0 then 0 else (tkS A c f.toNatClampNeg l.toNatClampNeg) / gcdN 64 (tkS A c f.toNatClampNeg l.toNatClampNeg) (cpS A c f.toNatClampNeg l.toNatClampNeg)) = ocR (tkV B (nbR B) c f.toNatClampNeg (l.toNatClampNeg + 1 - f.toNatClampNeg)) (cpV B (nsR B) c f.toNatClampNeg (l.toNatClampNeg + 1 - f.toNatClampNeg)) D 1 := by
  rw [(s_nb h).1, (s_ns h).1] at hD ⊢
  rw [s_tkS h, s_cpS h, gR_N hD.1]
  unfold ocR
  by_cases q : tkV B nb c f.toNatClampNeg (l.toNatClampNeg + 1 - f.toNatClampNeg) = 0
  · rw [if_pos (Or.inl q), if_pos q]; rfl
  · rw [if_neg (fun r => r.elim q (hD.2 q)), if_neg q]; rfl
theorem q_occD (h : Same A B nc ns nz nb nr t) (c f l : Int32) {D : Int32} (hc : cr_occupancy B c f l 0 = 0) (hD : gcdR 64 (tkV B (nbR B) c f.toNatClampNeg (l.toNatClampNeg + 1 - f.toNatClampNeg)) (cpV B (nsR B) c f.toNatClampNeg (l.toNatClampNeg + 1 - f.toNatClampNeg)) = some D ∧ (¬ tkV B (nbR B) c f.toNatClampNeg (l.toNatClampNeg + 1 - f.toNatClampNeg) = 0 → ¬ D = 0)) :
    (if (tkS A c f.toNatClampNeg l.toNatClampNeg) = 0 ∨ gcdN 64 (tkS A c f.toNatClampNeg l.toNatClampNeg) (cpS A c f.toNatClampNeg l.toNatClampNeg) = 0 then 1 else (cpS A c f.toNatClampNeg l.toNatClampNeg) / gcdN 64 (tkS A c f.toNatClampNeg l.toNatClampNeg) (cpS A c f.toNatClampNeg l.toNatClampNeg)) = ocR (tkV B (nbR B) c f.toNatClampNeg (l.toNatClampNeg + 1 - f.toNatClampNeg)) (cpV B (nsR B) c f.toNatClampNeg (l.toNatClampNeg + 1 - f.toNatClampNeg)) D 0 := by
  rw [(s_nb h).1, (s_ns h).1] at hD ⊢
  rw [s_tkS h, s_cpS h, gR_N hD.1]
  unfold ocR
  by_cases q : tkV B nb c f.toNatClampNeg (l.toNatClampNeg + 1 - f.toNatClampNeg) = 0
  · rw [if_pos (Or.inl q), if_pos q]; rfl
  · rw [if_neg (fun r => r.elim q (hD.2 q)), if_neg q]; rfl
end Reads2
