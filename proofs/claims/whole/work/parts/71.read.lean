theorem ifc {α : Type} {P Q : Prop} [Decidable P] [Decidable Q] {a a' b b' : α} (h : P ↔ Q) (ha : a = a') (hb : ¬ Q → b = b') : (if P then a else b) = if Q then a' else b' := by
  by_cases q : Q
  · rw [if_pos q, if_pos (h.mpr q), ha]
  · rw [if_neg q, if_neg (fun p => q (h.mp p)), hb q]
theorem ifo {α : Type} {P Q : Prop} [Decidable P] [Decidable Q] {a b : α} : (if P then a else if Q then a else b) = if (P ∨ Q) then a else b := by
  by_cases p : P
  · rw [if_pos p, if_pos (Or.inl p)]
  · by_cases q : Q
    · rw [if_neg p, if_pos q, if_pos (Or.inr q)]
    · rw [if_neg p, if_neg q, if_neg (fun r => r.elim p q)]
theorem if0 {P : Prop} [Decidable P] {a b : Nat} (ha : a ≠ 0) (h : (if P then a else b) = 0) : ¬ P ∧ b = 0 := by
  by_cases p : P
  · rw [if_pos p] at h; exact absurd h ha
  · rw [if_neg p] at h; exact ⟨p, h⟩
theorem k_rg (a b x : Int32) : (x < a ∨ b < x) ↔ ¬ (a ≤ x ∧ x ≤ b) :=
  ⟨fun h q => h.elim (Int32.not_lt.mpr q.1) (Int32.not_lt.mpr q.2), fun h => Classical.byContradiction (fun q => h ⟨Int32.not_lt.mp (fun r => q (Or.inl r)), Int32.not_lt.mp (fun r => q (Or.inr r))⟩)⟩
theorem k_no {x y c : Int32} {k : Nat} (hx : x = nI k) (hy : y = nI k) (hk : k ≤ 1000) : (c < 0 ∨ x ≤ c) ↔ ¬ (0 ≤ c ∧ c ≤ y - 1) := by
  by_cases h0 : c < 0
  · exact ⟨fun _ q => Int32.not_lt.mpr q.1 h0, fun _ => Or.inl h0⟩
  · refine ⟨fun h q => ?_, fun h => Or.inr ?_⟩
    · obtain ⟨j, hj, rfl⟩ := cls_of hy (by omega) q
      have := le_of_le hx rfl (by omega) (by omega) (h.resolve_left h0)
      omega
    · obtain ⟨j, hj, rfl⟩ := nI_of h0
      rcases Nat.lt_or_ge j k with q | q
      · refine absurd ⟨Int32.not_lt.mp h0, ?_⟩ h
        cases k with
        | zero => omega
        | succ k => rw [hy, nI_pred]; exact (le_nI hj (by omega)).mpr (by omega)
      · rw [hx]; exact (le_nI (by omega) hj).mpr q
theorem k_ful {x y z : Int32} {k f : Nat} (hx : x = nI k) (hy : y = nI k) (hz : z = nI f) (hf : f ≤ 1000) (hk : k ≤ f) : z ≤ x ↔ ¬ ¬ y = z := by
  rw [Classical.not_not, hx, hy, hz, le_nI (by omega) (by omega), nI_eq (by omega) (by omega)]
  omega
section Reads
variable {A B : Nat → Nat → Int32} {nc ns nz nb nr t : Nat}
theorem k_cls (h : Same A B nc ns nz nb nr t) (c : Int32) : (c < 0 ∨ A 2 3 ≤ c) ↔ ¬ (0 ≤ c ∧ c ≤ B 64 1 - 1) := by
  obtain ⟨⟨h1, l1, -⟩, ⟨h2, -⟩, -⟩ := h; exact k_no h1 h2 (by omega)
theorem k_sit (h : Same A B nc ns nz nb nr t) (c : Int32) : (c < 0 ∨ A 6 2 ≤ c) ↔ ¬ (0 ≤ c ∧ c ≤ B 64 2 - 1) := by
  obtain ⟨⟨-, -, h1, l1, -⟩, ⟨-, -, h2, -⟩, -⟩ := h; exact k_no h1 h2 (by omega)
theorem k_bkg (h : Same A B nc ns nz nb nr t) (c : Int32) : (c < 0 ∨ A 15 6 ≤ c) ↔ ¬ (0 ≤ c ∧ c ≤ B 64 4 - 1) := by
  obtain ⟨⟨-, -, -, -, -, -, h1, l1, -⟩, ⟨-, -, -, -, -, -, h2, -⟩, -⟩ := h; exact k_no h1 h2 (by omega)
theorem k_req (h : Same A B nc ns nz nb nr t) (c : Int32) : (c < 0 ∨ A 22 5 ≤ c) ↔ ¬ (0 ≤ c ∧ c ≤ B 64 5 - 1) := by
  obtain ⟨⟨-, -, -, -, -, -, -, -, h1, l1, -⟩, ⟨-, -, -, -, -, -, -, -, h2, -⟩, -⟩ := h; exact k_no h1 h2 (by omega)
theorem s_ns (h : Same A B nc ns nz nb nr t) : nsR B = ns ∧ nsM A = ns := by obtain ⟨⟨-, -, h1, l1, -⟩, ⟨-, -, h2, -⟩, -⟩ := h; exact ⟨cl_of h2 (by omega), cl_of h1 (by omega)⟩
theorem s_nb (h : Same A B nc ns nz nb nr t) : nbR B = nb ∧ nbM A = nb := by obtain ⟨⟨-, -, -, -, -, -, h1, l1, -⟩, ⟨-, -, -, -, -, -, h2, -⟩, -⟩ := h; exact ⟨cl_of h2 (by omega), cl_of h1 (by omega)⟩
theorem s_nz2 (h : Same A B nc ns nz nb nr t) : nzR B = nz ∧ nzM A = nz := by obtain ⟨⟨-, -, -, -, h1, l1, -⟩, ⟨-, -, -, -, h2, -⟩, -⟩ := h; exact ⟨cl_of h2 (by omega), cl_of h1 (by omega)⟩
theorem s_nr (h : Same A B nc ns nz nb nr t) : nrR B = nr ∧ nrM A = nr := by obtain ⟨⟨-, -, -, -, -, -, -, -, h1, l1, -⟩, ⟨-, -, -, -, -, -, -, -, h2, -⟩, -⟩ := h; exact ⟨cl_of h2 (by omega), cl_of h1 (by omega)⟩
theorem s_tM (h : Same A B nc ns nz nb nr t) : tM A = t ∧ (B 64 0).toNatClampNeg = t := by obtain ⟨⟨-, -, -, -, -, -, -, -, -, -, h1, l1⟩, ⟨-, -, -, -, -, -, -, -, -, -, h2, -⟩, -⟩ := h; exact ⟨cl_of h1 (by omega), cl_of h2 (by omega)⟩
theorem o_cls (h : Same A B nc ns nz nb nr t) {c : Int32} (q : 0 ≤ c ∧ c ≤ B 64 1 - 1) : ∃ k, k < nc ∧ c = nI k ∧ c.toNatClampNeg = k := by
  obtain ⟨⟨-, l1, -⟩, ⟨h2, -⟩, -⟩ := h
  obtain ⟨k, hk, e⟩ := cls_of h2 (by omega) q
  exact ⟨k, hk, e, cl_of e (by omega)⟩
theorem o_sit (h : Same A B nc ns nz nb nr t) {c : Int32} (q : 0 ≤ c ∧ c ≤ B 64 2 - 1) : ∃ k, k < ns ∧ c = nI k ∧ c.toNatClampNeg = k := by
  obtain ⟨⟨-, -, -, l1, -⟩, ⟨-, -, h2, -⟩, -⟩ := h
  obtain ⟨k, hk, e⟩ := cls_of h2 (by omega) q
  exact ⟨k, hk, e, cl_of e (by omega)⟩
theorem o_bkg (h : Same A B nc ns nz nb nr t) {c : Int32} (q : 0 ≤ c ∧ c ≤ B 64 4 - 1) : ∃ k, k < nb ∧ c = nI k ∧ c.toNatClampNeg = k := by
  obtain ⟨⟨-, -, -, -, -, -, -, l1, -⟩, ⟨-, -, -, -, -, -, h2, -⟩, -⟩ := h
  obtain ⟨k, hk, e⟩ := cls_of h2 (by omega) q
  exact ⟨k, hk, e, cl_of e (by omega)⟩
theorem o_req (h : Same A B nc ns nz nb nr t) {c : Int32} (q : 0 ≤ c ∧ c ≤ B 64 5 - 1) : ∃ k, k < nr ∧ c = nI k ∧ c.toNatClampNeg = k := by
  obtain ⟨⟨-, -, -, -, -, -, -, -, -, l1, -⟩, ⟨-, -, -, -, -, -, -, -, h2, -⟩, -⟩ := h
  obtain ⟨k, hk, e⟩ := cls_of h2 (by omega) q
  exact ⟨k, hk, e, cl_of e (by omega)⟩
theorem q_classOf (h : Same A B nc ns nz nb nr t) (x : Int32) : cd_classOf A x = cr_classOf B x ∧ (cr_classOf B x = 0 → A 7 x.toNatClampNeg = V B 7 x.toNatClampNeg) := by
  refine ⟨ifc (k_sit h x) rfl (fun _ => rfl), fun q => ?_⟩
  obtain ⟨k, hk, -, e⟩ := o_sit h (Classical.not_not.mp (if0 (by decide) q).1)
  rw [e]; exact h.2.2.2.1.1 k hk
theorem q_bf (h : Same A B nc ns nz nb nr t) (x : Int32) {i : Nat} (hi : RWq A B nb i) : (if (x < 0 ∨ A 15 6 ≤ x) then 1 else 0) = cr_bf B x ∧ (cr_bf B x = 0 → A i x.toNatClampNeg = V B i x.toNatClampNeg) := by
  refine ⟨ifc (k_bkg h x) rfl (fun _ => rfl), fun q => ?_⟩
  obtain ⟨k, hk, -, e⟩ := o_bkg h (Classical.not_not.mp (if0 (by decide) q).1)
  rw [e]; exact hi k hk
theorem q_requestState (h : Same A B nc ns nz nb nr t) (x : Int32) : cd_requestState A x = cr_requestState B x ∧ (cr_requestState B x = 0 → A 26 x.toNatClampNeg = V B 26 x.toNatClampNeg) := by
  refine ⟨ifc (k_req h x) rfl (fun _ => rfl), fun q => ?_⟩
  obtain ⟨k, hk, -, e⟩ := o_req h (Classical.not_not.mp (if0 (by decide) q).1)
  rw [e]; exact h.2.2.2.2.2.2.2.2.2.1 k hk
theorem q_bookingOf (h : Same A B nc ns nz nb nr t) (x : Int32) : cd_bookingOf A x = cr_bookingOf B x ∧ (cr_bookingOf B x = 0 → A 27 x.toNatClampNeg = V B 27 x.toNatClampNeg) := by
  refine ⟨ifc (k_req h x) rfl (fun _ => rfl), fun q => ?_⟩
  obtain ⟨k, hk, -, e⟩ := o_req h (Classical.not_not.mp (if0 (by decide) q).1)
  rw [e]; exact h.2.2.2.2.2.2.2.2.2.2 k hk
theorem q_minimum (h : Same A B nc ns nz nb nr t) (c d : Int32) : cd_minimum A c d = cr_minimum B c d ∧ (cr_minimum B c d = 0 → sval (seasN (A 10) (A 11) (A 12) c d nz) (A 13) 1 = sval (seasN (V B 10) (V B 11) (V B 12) c d (nzR B)) (V B 13) 1) :=
  ⟨ifc (k_cls h c) rfl (fun _ => ifc (k_rg 0 999 d) rfl (fun _ => rfl)), fun _ => by rw [(s_nz2 h).1]; exact s_mn h c d⟩
theorem q_price (h : Same A B nc ns nz nb nr t) (c d : Int32) : cd_price A c d = cr_price B c d ∧ (cr_price B c d = 0 → sval (seasN (A 10) (A 11) (A 12) c d nz) (A 14) 20 = sval (seasN (V B 10) (V B 11) (V B 12) c d (nzR B)) (V B 14) 20) :=
  ⟨ifc (k_cls h c) rfl (fun _ => ifc (k_rg 0 999 d) rfl (fun _ => rfl)), fun _ => by rw [(s_nz2 h).1]; exact s_pr h c d⟩
theorem s_cap (h : Same A B nc ns nz nb nr t) (c d : Int32) : capF (A 1 5) (nI (cnt (opB (A 7) (A 8) c d) ns)) d = if B 64 0 ≤ d ∧ d ≤ 998 then nI (cnt (opB (V B 7) (V B 8) c d) ns) else 0 := by
  unfold capF
  rw [s_t h, s_op h]
  by_cases q : B 64 0 ≤ d ∧ d ≤ 998
  · rw [if_pos q, if_neg (fun r => (k_rg _ _ _).mp r q)]
  · rw [if_neg q, if_pos ((k_rg _ _ _).mpr q)]
theorem q_capacity (h : Same A B nc ns nz nb nr t) (c d : Int32) : cd_capacity A c d = cr_capacity B c d ∧ (cr_capacity B c d = 0 → capF (A 1 5) (nI (cnt (opB (A 7) (A 8) c d) ns)) d = if B 64 0 ≤ d ∧ d ≤ 998 then nI (cnt (opB (V B 7) (V B 8) c d) (nsR B)) else 0) :=
  ⟨ifc (k_cls h c) rfl (fun _ => rfl), fun _ => by rw [(s_ns h).1]; exact s_cap h c d⟩
theorem q_released (h : Same A B nc ns nz nb nr t) (c d : Int32) : cd_released A c d = cr_released B c d ∧ (cr_released B c d = 0 → relC (A 1 5) (A 3 c.toNatClampNeg) (A 4 c.toNatClampNeg) (A 5 c.toNatClampNeg) (nI (cnt (opB (A 7) (A 8) c d) ns)) d = rlV B (nsR B) c.toNatClampNeg c d) := by
  refine ⟨ifc (k_cls h c) rfl (fun _ => rfl), fun q => ?_⟩
  obtain ⟨k, hk, -, e⟩ := o_cls h (Classical.not_not.mp (if0 (by decide) q).1)
  rw [e, (s_ns h).1]; exact s_rel h hk c d
theorem q_taken (h : Same A B nc ns nz nb nr t) (c d : Int32) : cd_taken A c d = cr_taken B c d ∧ (cr_taken B c d = 0 → nI (cnt (tkB (A 16) (A 17) (A 18) (A 20) c d) nb) = nI (cnt (tkB (V B 16) (V B 17) (V B 18) (V B 20) c d) (nbR B))) :=
  ⟨ifc (k_cls h c) rfl (fun _ => rfl), fun _ => by rw [(s_nb h).1, s_tk h]⟩
theorem av_sw (x : Int32) : (if x < 0 then 0 else x) = if 0 < x then x else 0 := by
  by_cases h : x < 0
  · rw [if_pos h, if_neg (Int32.not_lt.mpr (Int32.le_of_lt h))]
  · rw [if_neg h]
    by_cases h2 : 0 < x
    · rw [if_pos h2]
    · rw [if_neg h2]; exact Int32.le_antisymm (Int32.not_lt.mp h2) (Int32.not_lt.mp h)
theorem q_available (h : Same A B nc ns nz nb nr t) (c d : Int32) : cd_available A c d = cr_available B c d ∧ (cr_available B c d = 0 → (if (relC (A 1 5) (A 3 c.toNatClampNeg) (A 4 c.toNatClampNeg) (A 5 c.toNatClampNeg) (nI (cnt (opB (A 7) (A 8) c d) ns)) d) - (nI (cnt (tkB (A 16) (A 17) (A 18) (A 20) c d) nb)) < 0 then 0 else (relC (A 1 5) (A 3 c.toNatClampNeg) (A 4 c.toNatClampNeg) (A 5 c.toNatClampNeg) (nI (cnt (opB (A 7) (A 8) c d) ns)) d) - (nI (cnt (tkB (A 16) (A 17) (A 18) (A 20) c d) nb))) = avV B (nsR B) (nbR B) c.toNatClampNeg c d) := by
  refine ⟨ifc (k_cls h c) rfl (fun _ => rfl), fun q => ?_⟩
  obtain ⟨k, hk, -, e⟩ := o_cls h (Classical.not_not.mp (if0 (by decide) q).1)
  rw [e, (s_ns h).1, (s_nb h).1, s_rel h hk c d, s_tk h, av_sw]
  rfl
theorem s_on (h : Same A B nc ns nz nb nr t) (hi : Inv A nc ns nb nr t) {k : Nat} (hk : k < nc) {c a m : Int32} (ec : c.toNatClampNeg = k) {mm : Nat} (hm : m = nI mm) (hm1 : 1 ≤ mm) (hm9 : mm ≤ 28) : obnC A ns nb c a m = onV B ns nb k c a m := by
  unfold obnC onV frM
  rw [ec]
  have e1 : frC A k ns nb c = frR B ns nb k c := funext (fun d => s_fr h hi hk c d)
  have e2 : lvC (A 1 5) (A 3 k) a m ↔ lvR (B 64 0) (V B 3 k) a m := by
    rw [s_t h, h.2.2.1.1 k hk]
    exact lv_eq h.2.1.2.2.2.2.2.2.2.2.2.2.1 h.2.1.2.2.2.2.2.2.2.2.2.2.2 hm hm1 hm9
  rw [e1]
  unfold obN
  exact ifc e2 rfl (fun _ => rfl)
theorem s_os (h : Same A B nc ns nz nb nr t) (hi : Inv A nc ns nb nr t) {k : Nat} (hk : k < nc) {c a m : Int32} (ec : c.toNatClampNeg = k) {mm : Nat} (hm : m = nI mm) (hm1 : 1 ≤ mm) (hm9 : mm ≤ 28) : obsC A ns nb nz c a m = osV B ns nb nz k c a m := by
  unfold obsC osV
  rw [s_on h hi hk ec hm hm1 hm9]
  have e1 : frC A k ns nb c = frR B ns nb k c := funext (fun d => s_fr h hi hk c d)
  have e2 : mnM A nz c a = mnV B nz c a := s_mn h c a
  unfold frM
  rw [ec, e1, e2]
theorem q_obstacle (h : Same A B nc ns nz nb nr t) (hi : Inv A nc ns nb nr t) (c a m : Int32) : cd_obstacle A c a m = cr_obstacle B c a m ∧ (cr_obstacle B c a m = 0 → obsC A ns nb nz c a m = osV B (nsR B) (nbR B) (nzR B) c.toNatClampNeg c a m) := by
  refine ⟨ifc (k_cls h c) rfl (fun _ => ifc (k_rg 1 28 m) rfl (fun _ => rfl)), fun q => ?_⟩
  obtain ⟨q1, q2⟩ := if0 (by decide) q
  obtain ⟨k, hk, -, e⟩ := o_cls h (Classical.not_not.mp q1)
  obtain ⟨mm, hm1, hm9, hm⟩ := stay_of (Classical.not_not.mp (if0 (by decide) q2).1)
  rw [(s_ns h).1, (s_nb h).1, (s_nz2 h).1, e]
  exact s_os h hi hk e hm hm1 hm9
theorem lng_cg {f g : Int32 → Int32} : ∀ {n : Nat}, (∀ k, 1 ≤ k → k ≤ n → f (nI k) = g (nI k)) → lngN f n = lngN g n
  | 0, _ => rfl
  | n + 1, h => by unfold lngN; rw [lng_cg (fun k h1 h2 => h k h1 (by omega)), h (n + 1) (by omega) (by omega)]
theorem q_longestStay (h : Same A B nc ns nz nb nr t) (hi : Inv A nc ns nb nr t) (c a : Int32) : cd_longestStay A c a = cr_longestStay B c a ∧ (cr_longestStay B c a = 0 → lngN (fun m => obsC A ns nb nz c a m) 28 = lngN (fun m => osV B (nsR B) (nbR B) (nzR B) c.toNatClampNeg c a m) 28) := by
  refine ⟨ifc (k_cls h c) rfl (fun _ => rfl), fun q => ?_⟩
  obtain ⟨k, hk, -, e⟩ := o_cls h (Classical.not_not.mp (if0 (by decide) q).1)
  rw [(s_ns h).1, (s_nb h).1, (s_nz2 h).1, e]
  exact lng_cg (fun j h1 h2 => s_os h hi hk e rfl h1 h2)
theorem q_cheapestArrival (h : Same A B nc ns nz nb nr t) (hi : Inv A nc ns nb nr t) (c m f l : Int32) : cd_cheapestArrival A c m f l = cr_cheapestArrival B c m f l ∧ (cr_cheapestArrival B c m f l = 0 → (chpN (fun i => decide (obsC A ns nb nz c (nI i) m = 0)) (fun i => psum (prM A nz c) i m.toNatClampNeg) f.toNatClampNeg (l.toNatClampNeg + 1 - f.toNatClampNeg)).1 = (chpN (fun i => decide (osV B (nsR B) (nbR B) (nzR B) c.toNatClampNeg c (nI i) m = 0)) (fun i => psum (fun d => sval (seasN (V B 10) (V B 11) (V B 12) c d (nzR B)) (V B 14) 20) i m.toNatClampNeg) f.toNatClampNeg (l.toNatClampNeg + 1 - f.toNatClampNeg)).1) := by
  refine ⟨?_, fun q => ?_⟩
  · unfold cd_cheapestArrival cr_cheapestArrival
    refine ifc (k_cls h c) rfl (fun _ => ?_)
    rw [ifo, ifo]
    exact ifc (by rw [k_rg, k_rg, k_rg]; simp only [Classical.not_and_iff_not_or_not, or_assoc]) rfl (fun _ => rfl)
  · obtain ⟨q1, q2⟩ := if0 (by decide) q
    obtain ⟨k, hk, -, e⟩ := o_cls h (Classical.not_not.mp q1)
    obtain ⟨mm, hm1, hm9, hm⟩ := stay_of (Classical.not_not.mp (if0 (by decide) q2).1).1
    rw [(s_ns h).1, (s_nb h).1, (s_nz2 h).1, e]
    have e1 : (fun i => decide (obsC A ns nb nz c (nI i) m = 0)) = fun i => decide (osV B ns nb nz k c (nI i) m = 0) := by
      funext i; rw [s_os h hi hk e hm hm1 hm9]
    have e2 : prM A nz c = fun d => sval (seasN (V B 10) (V B 11) (V B 12) c d nz) (V B 14) 20 := funext (fun d => s_pr h c d)
    rw [e1, e2]
theorem q_nextGap (h : Same A B nc ns nz nb nr t) (hi : Inv A nc ns nb nr t) (c f : Int32) : cd_nextGap A c f = cr_nextGap B c f ∧ (cr_nextGap B c f = 0 → gapN (fun i => frM A ns nb c (nI i) && !frM A ns nb c (nI i - 1)) f.toNatClampNeg (999 - f.toNatClampNeg) = gapN (fun i => frR B (nsR B) (nbR B) c.toNatClampNeg c (nI i) && !frR B (nsR B) (nbR B) c.toNatClampNeg c (nI i - 1)) f.toNatClampNeg (999 - f.toNatClampNeg)) := by
  refine ⟨ifc (k_cls h c) rfl (fun _ => ifc (k_rg 0 999 f) rfl (fun _ => rfl)), fun q => ?_⟩
  obtain ⟨k, hk, -, e⟩ := o_cls h (Classical.not_not.mp (if0 (by decide) q).1)
  have e1 : frC A k ns nb c = frR B ns nb k c := funext (fun d => s_fr h hi hk c d)
  unfold frM
  rw [(s_ns h).1, (s_nb h).1, e, e1]
end Reads
