theorem neg1_le {a : Nat} (ha : a < 2 ^ 31) : (-1 : Int32) ≤ nI a := by
  rw [Int32.le_iff_toInt_le, nI_toInt ha]
  have : (-1 : Int32).toInt = -1 := by decide
  omega
theorem best_none {ok : Nat → Bool} {bt : Nat → Nat → Bool} : ∀ {n : Nat}, n < 2 ^ 31 → bestN ok bt n = -1 → ∀ k, k < n → ok k = false
  | 0, _, _, k, hk => absurd hk (by omega)
  | n + 1, hn, h, k, hk => by
    have h1 : bestN ok bt n = -1 := by
      unfold bestN at h
      split at h
      · exact absurd h (nI_neg1 (by omega))
      · exact h
    by_cases q : k = n
    · subst q
      cases e : ok k with
      | false => rfl
      | true => rw [best_t e (Or.inl h1)] at h; exact absurd h (nI_neg1 (by omega))
    · exact best_none (by omega) h1 k (by omega)
theorem best_min {f : Nat → Int32} {ok : Nat → Bool} : ∀ {n b : Nat}, n < 2 ^ 31 → b < 2 ^ 31 → bestN ok (fun k b => decide (f k < f b)) n = nI b → ∀ k, k < n → ok k = true → f b ≤ f k
  | 0, _, _, _, _, k, hk, _ => absurd hk (by omega)
  | n + 1, b, hn, hb, h, k, hk, hok => by
    cases hn2 : ok n with
    | false =>
      rw [best_n hn2] at h
      by_cases q : k = n
      · rw [q, hn2] at hok; cases hok
      · exact best_min (by omega) hb h k (by omega) hok
    | true =>
      rcases best_in ok (fun k b => decide (f k < f b)) n with e | ⟨b0, hb0, e, -⟩
      · rw [best_t hn2 (Or.inl e)] at h
        have hbn : n = b := (nI_eq (by omega) hb).mp h
        subst hbn
        by_cases q : k = n
        · rw [q]; exact Int32.le_refl _
        · have := best_none (by omega) e k (by omega)
          rw [hok] at this; cases this
      · by_cases hlt : f n < f b0
        · rw [best_b hn2 e (by omega) (decide_eq_true hlt)] at h
          have hbn : n = b := (nI_eq (by omega) hb).mp h
          subst hbn
          by_cases q : k = n
          · rw [q]; exact Int32.le_refl _
          · exact Int32.le_trans (Int32.le_of_lt hlt) (best_min (by omega) (by omega) e k (by omega) hok)
        · rw [best_w e (by omega) (decide_eq_false hlt), e] at h
          have hbn : b0 = b := (nI_eq (by omega) hb).mp h
          subst hbn
          by_cases q : k = n
          · rw [q]; exact Int32.not_lt.mp hlt
          · exact best_min (by omega) (by omega) e k (by omega) hok
/-- as many as are named -/
theorem cnt_inj {p q : Nat → Bool} {pl : Nat → Int32} {nb : Nat} : ∀ {n : Nat}, n < 2 ^ 30 → (∀ s, s < n → p s = true → ∃ j, j < nb ∧ q j = true ∧ pl j = nI s) → cnt p n ≤ cnt (fun j => q j && anyB (fun s => decide (pl j = nI s)) n) nb
  | 0, _, _ => Nat.zero_le _
  | n + 1, hn, h => by
    have ih := cnt_inj (n := n) (by omega) (fun s hs => h s (by omega))
    have mono : ∀ j, (q j && anyB (fun s => decide (pl j = nI s)) n) = true → (q j && anyB (fun s => decide (pl j = nI s)) (n + 1)) = true := by
      intro j hj
      rw [Bool.and_eq_true] at hj ⊢
      refine ⟨hj.1, ?_⟩
      unfold anyB
      rw [hj.2]; rfl
    cases hp : p n with
    | false => rw [cnt_f hp]; exact Nat.le_trans ih (cnt_mono (fun j _ => mono j))
    | true =>
      rw [cnt_t hp]
      obtain ⟨j, hj, hq, hpl⟩ := h n (by omega) hp
      have hno : (q j && anyB (fun s => decide (pl j = nI s)) n) = false := by
        cases e : anyB (fun s => decide (pl j = nI s)) n with
        | false => rw [Bool.and_false]
        | true =>
          exfalso
          have : ∀ m, m ≤ n → anyB (fun s => decide (pl j = nI s)) m = false := by
            intro m
            induction m with
            | zero => intro _; rfl
            | succ m ihm =>
              intro hm
              exact any_no (ihm (by omega)) (decide_eq_false (fun r => absurd ((nI_eq (by omega) (by omega)).mp (r.symm.trans hpl)) (by omega)))
          rw [this n (Nat.le_refl _)] at e; cases e
      have hyes : (q j && anyB (fun s => decide (pl j = nI s)) (n + 1)) = true := by
        rw [hq, Bool.true_and]
        exact any_hit (k := n) (decide_eq_true hpl) (by omega)
      have e1 : cnt (fun i => (q i && anyB (fun s => decide (pl i = nI s)) n) || decide (i = j)) nb = cnt (fun i => q i && anyB (fun s => decide (pl i = nI s)) n) nb + 1 := by
        refine cnt_one (k := j) (by simp) hno hj (fun i _ e => by simp [e])
      have e2 : cnt (fun i => (q i && anyB (fun s => decide (pl i = nI s)) n) || decide (i = j)) nb ≤ cnt (fun i => q i && anyB (fun s => decide (pl i = nI s)) (n + 1)) nb := by
        refine cnt_mono (fun i _ hi => ?_)
        rw [Bool.or_eq_true] at hi
        rcases hi with hi | hi
        · exact mono i hi
        · rw [of_decide_eq_true hi]; exact hyes
      omega
def PRl (nb : Nat) (S S' : PlS) : Prop := (∀ k, k < nb → S.1 k = S'.1 k) ∧ (∀ s, s < 16 → S.2.1 s = S'.2.1 s) ∧ S.2.2.1 = S'.2.2.1 ∧ S.2.2.2 = S'.2.2.2
theorem pl_fuel {B : Nat → Nat → Int32} {ns nb nz : Nat} {c pol : Int32} : ∀ {f g : Nat} {S S2 : PlS}, f ≤ g → plR B ns nb nz c pol f S = some S2 → plR B ns nb nz c pol g S = some S2
  | 0, _, _, _, _, h => by cases h
  | f + 1, g, S, S2, hfg, h => by
    obtain ⟨g', rfl⟩ : ∃ g', g = g' + 1 := ⟨g - 1, by omega⟩
    unfold plR at h ⊢
    split at h
    · rename_i q; rw [if_pos q]; exact h
    · rename_i q
      rw [if_neg q]
      split at h
      · cases h
      · rename_i q2
        rw [if_neg q2]
        exact pl_fuel (by omega) h
section Plan
variable {A B : Nat → Nat → Int32} {nc ns nz nb nr t : Nat}
/-- the plan's last departures are those of bookings that come before all that wait -/
def PJ2 (A : Nat → Nat → Int32) (nb : Nat) (c : Int32) (S : PlS) : Prop := ∀ s, s < 16 → S.2.1 s = -1 ∨ ∃ j, j < nb ∧ S.1 j = nI s ∧ A 16 j = c ∧ actP (A 20 j) ∧ A 18 j = S.2.1 s ∧ ∀ k, k < nb → nxB (A 16) (A 20) S.1 c k = true → A 17 j ≤ A 17 k
/-- a site is free for the next booking -/
theorem pl_site (h : Same A B nc ns nz nb nr t) (hi : Inv A nc ns nb nr t) {c pol : Int32} {S : PlS} (hJ : PJ2 A nb c S) {nx : Nat} (hnx : nx < nb) (hok : nxB (A 16) (A 20) S.1 c nx = true) : ¬ bestN (chB (A 7) (A 8) S.2.1 c (A 17 nx)) (fun k b => decide (pol = 1 ∧ S.2.1 b < S.2.1 k)) ns = -1 := by
  intro hno
  have hs := h.1.2.2.2.1
  have hl := h.1.2.2.2.2.2.2.2.1
  have ht := h.1.2.2.2.2.2.2.2.2.2.2.2
  have hall := best_none (by omega) hno
  unfold nxB at hok
  obtain ⟨o1, o2, o3⟩ := of_decide_eq_true hok
  obtain ⟨kc, a, d, -, -, ea, ed, had, hd9, hbk, -⟩ := hi.2.1 nx hnx
  have hta := hbk o1
  have h4 := hi.2.2.2.1 c a hta (by omega)
  have h5 := cnt_inj (p := opB (A 7) (A 8) c (nI a)) (q := tkB (A 16) (A 17) (A 18) (A 20) c (nI a)) (pl := S.1) (nb := nb) (n := ns) (by omega) (by
    intro s hs2 hp
    have q := of_decide_eq_true (show decide (A 7 s = c ∧ A 8 s ≤ nI a) = true from hp)
    have hc := of_decide_eq_false (show decide (A 7 s = c ∧ A 8 s ≤ A 17 nx ∧ S.2.1 s ≤ A 17 nx) = false from hall s hs2)
    rw [ea] at hc
    have hgt : ¬ S.2.1 s ≤ nI a := fun r => hc ⟨q.1, q.2, r⟩
    rcases hJ s (by omega) with e | ⟨j, hj, g1, g2, g3, g4, g5⟩
    · exact absurd (show S.2.1 s ≤ nI a by rw [e]; exact neg1_le (by omega)) hgt
    · refine ⟨j, hj, ?_, g1⟩
      unfold tkB
      refine decide_eq_true ⟨?_, ?_, g2, g3⟩
      · rw [← ea]; exact g5 nx hnx hok
      · rw [g4]; exact Int32.not_le.mp hgt)
  have hk : tkB (A 16) (A 17) (A 18) (A 20) c (nI a) nx = true := by
    unfold tkB
    refine decide_eq_true ⟨?_, ?_, o2, Or.inl o1⟩
    · rw [ea]; exact Int32.le_refl _
    · rw [ed]; exact (lt_nI (by omega) (by omega)).mpr had
  have hkn : ∀ m, m ≤ ns → anyB (fun s => decide (S.1 nx = nI s)) m = false := by
    intro m
    induction m with
    | zero => intro _; rfl
    | succ m ihm =>
      intro hm
      exact any_no (ihm (by omega)) (decide_eq_false (fun r => nI_neg1 (show m < 2 ^ 31 by omega) (r.symm.trans o3)))
  have e1 : cnt (tkB (A 16) (A 17) (A 18) (A 20) c (nI a)) nb = cnt (fun j => tkB (A 16) (A 17) (A 18) (A 20) c (nI a) j && !decide (j = nx)) nb + 1 := cnt_one (k := nx) hk (by simp) hnx (fun j _ e => by simp [e])
  have e2 : cnt (fun j => tkB (A 16) (A 17) (A 18) (A 20) c (nI a) j && anyB (fun s => decide (S.1 j = nI s)) ns) nb ≤ cnt (fun j => tkB (A 16) (A 17) (A 18) (A 20) c (nI a) j && !decide (j = nx)) nb := by
    refine cnt_mono (fun j _ hj => ?_)
    rw [Bool.and_eq_true] at hj ⊢
    refine ⟨hj.1, ?_⟩
    by_cases e : j = nx
    · rw [e, hkn ns (Nat.le_refl _)] at hj; exact absurd hj.2 (by decide)
    · simp [e]
  omega
theorem pl_run (h : Same A B nc ns nz nb nr t) (hi : Inv A nc ns nb nr t) (c pol : Int32) : ∀ (f : Nat) (S S' : PlS), PRl nb S S' → PJ2 A nb c S → cnt (nxB (A 16) (A 20) S.1 c) nb ≤ f → ∃ S2, plR B ns nb nz c pol (f + 1) S' = some S2 ∧ PRl nb (plRun (plStep nb ns (A 16) (A 17) (A 18) (A 20) (A 7) (A 8) (mnM A nz c) c pol) f S) S2 := by
  have hs := h.1.2.2.2.1
  have hl := h.1.2.2.2.2.2.2.2.1
  have hr := h.2.2.2.2.2.1
  have hq := h.2.2.2.1
  have enx : ∀ S S' : PlS, PRl nb S S' → bestN (nxB (A 16) (A 20) S.1 c) (fun k b => decide (A 17 k < A 17 b)) nb = nxR B nb c S' := by
    intro S S' hP
    unfold nxR
    refine best_cg (by omega) (fun k hk => ?_) (fun k b hk hb => ?_)
    · unfold nxB; rw [hr.1 k hk, hr.2.2.2.2.1 k hk, hP.1 k hk]
    · rw [hr.2.1 k hk, hr.2.1 b hb]
  intro f
  induction f with
  | zero =>
    intro S S' hP hJ hw
    have e0 : nxR B nb c S' = -1 := by
      rw [← enx S S' hP]
      rcases best_in (nxB (A 16) (A 20) S.1 c) (fun k b => decide (A 17 k < A 17 b)) nb with e | ⟨k, hk, -, hok⟩
      · exact e
      · have : cnt (nxB (A 16) (A 20) S.1 c) nb = cnt (fun j => nxB (A 16) (A 20) S.1 c j && !decide (j = k)) nb + 1 := cnt_one (k := k) hok (by simp) hk (fun j _ e => by simp [e])
        omega
    exact ⟨S', by rw [plR, if_pos e0], hP⟩
  | succ f ih =>
    intro S S' hP hJ hw
    have en := enx S S' hP
    rcases best_in (nxB (A 16) (A 20) S.1 c) (fun k b => decide (A 17 k < A 17 b)) nb with e | ⟨nx, hnx, e, hok⟩
    · refine ⟨S', by rw [plR, if_pos (en ▸ e)], ?_⟩
      rw [plRun_n (by rw [plStep, if_pos e])]
      exact hP
    · have hns := pl_site (pol := pol) h hi hJ hnx hok
      obtain ⟨ch, hch, ech, -⟩ := (best_in (chB (A 7) (A 8) S.2.1 c (A 17 nx)) (fun k b => decide (pol = 1 ∧ S.2.1 b < S.2.1 k)) ns).resolve_left hns
      have hok2 := of_decide_eq_true (show decide (A 20 nx = 0 ∧ A 16 nx = c ∧ S.1 nx = -1) = true from hok)
      have enx2 : nxR B nb c S' = nI nx := en ▸ e
      have ef : fsR B ns pol S' nx = nI ch := by
        rw [← ech]
        unfold fsR
        symm
        refine best_cg (by omega) (fun k hk => ?_) (fun k b hk hb => ?_)
        · unfold chB; rw [hq.1 k hk, hq.2 k hk, hP.2.1 k (by omega), hr.2.1 nx hnx, ← hr.1 nx hnx, hok2.2.1]
        · rw [hP.2.1 k (by omega), hP.2.1 b (by omega)]
      have cnx : (nI nx).toNatClampNeg = nx := nI_clamp (by omega)
      have cch : (nI ch).toNatClampNeg = ch := nI_clamp (by omega)
      have hst : plStep nb ns (A 16) (A 17) (A 18) (A 20) (A 7) (A 8) (mnM A nz c) c pol S = some (upd S.1 nx (nI ch), upd S.2.1 ch (A 18 nx), (if S.2.1 ch = -1 then S.2.2.1 else S.2.2.1 + (A 17 nx - S.2.1 ch)), (if S.2.1 ch = -1 then S.2.2.2 else if A 17 nx - S.2.1 ch < mnM A nz c (S.2.1 ch) then S.2.2.2 + (A 17 nx - S.2.1 ch) else S.2.2.2)) := by
        simp only [plStep, e, cnx, ech, cch, if_neg (nI_neg1 (show nx < 2 ^ 31 by omega)), if_neg (nI_neg1 (show ch < 2 ^ 31 by omega))]
      rw [plRun_s hst]
      have eR : plR B ns nb nz c pol (f + 1 + 1) S' = plR B ns nb nz c pol (f + 1) (plcR B nz S' nx (nI ch)) := by
        rw [plR, enx2, if_neg (nI_neg1 (by omega)), cnx, ef, if_neg (nI_neg1 (by omega))]
      rw [eR]
      refine ih _ _ ?_ ?_ ?_
      · unfold plcR
        rw [cch]
        refine ⟨fun k hk => ?_, fun s hs2 => ?_, ?_, ?_⟩
        · show upd S.1 nx (nI ch) k = upd S'.1 nx (nI ch) k
          by_cases q : k = nx
          · rw [q, upd_s, upd_s]
          · rw [upd_n q, upd_n q]; exact hP.1 k hk
        · show upd S.2.1 ch (A 18 nx) s = upd S'.2.1 ch (V B 18 nx) s
          by_cases q : s = ch
          · rw [q, upd_s, upd_s]; exact hr.2.2.1 nx hnx
          · rw [upd_n q, upd_n q]; exact hP.2.1 s hs2
        · show (if S.2.1 ch = -1 then S.2.2.1 else S.2.2.1 + (A 17 nx - S.2.1 ch)) = if S'.2.1 ch = -1 then S'.2.2.1 else S'.2.2.1 + (V B 17 nx - S'.2.1 ch)
          rw [hP.2.1 ch (by omega), hP.2.2.1, hr.2.1 nx hnx]
        · show (if S.2.1 ch = -1 then S.2.2.2 else if A 17 nx - S.2.1 ch < mnM A nz c (S.2.1 ch) then S.2.2.2 + (A 17 nx - S.2.1 ch) else S.2.2.2) = if S'.2.1 ch = -1 then S'.2.2.2 else S'.2.2.2 + (if V B 17 nx - S'.2.1 ch < mnV B nz (V B 16 nx) (S'.2.1 ch) then V B 17 nx - S'.2.1 ch else 0)
          rw [hP.2.1 ch (by omega), hP.2.2.2, hr.2.1 nx hnx, ← hr.1 nx hnx, hok2.2.1, show mnM A nz c (S'.2.1 ch) = mnV B nz c (S'.2.1 ch) from s_mn h c _]
          refine ifc Iff.rfl rfl (fun _ => ?_)
          split
          · rfl
          · rw [Int32.add_zero]
      · intro s hs2
        show upd S.2.1 ch (A 18 nx) s = -1 ∨ ∃ j, j < nb ∧ upd S.1 nx (nI ch) j = nI s ∧ A 16 j = c ∧ actP (A 20 j) ∧ A 18 j = upd S.2.1 ch (A 18 nx) s ∧ ∀ k, k < nb → nxB (A 16) (A 20) (upd S.1 nx (nI ch)) c k = true → A 17 j ≤ A 17 k
        have hnxk : ∀ k, nxB (A 16) (A 20) (upd S.1 nx (nI ch)) c k = true → nxB (A 16) (A 20) S.1 c k = true := by
          intro k hk
          have hk := of_decide_eq_true (show decide (A 20 k = 0 ∧ A 16 k = c ∧ upd S.1 nx (nI ch) k = -1) = true from hk)
          by_cases q : k = nx
          · rw [q, upd_s] at hk; exact absurd hk.2.2 (nI_neg1 (by omega))
          · rw [upd_n q] at hk; unfold nxB; exact decide_eq_true hk
        by_cases q : s = ch
        · refine Or.inr ⟨nx, hnx, by rw [upd_s, q], hok2.2.1, Or.inl hok2.1, by rw [q, upd_s], fun k hk hk2 => ?_⟩
          exact best_min (by omega) (by omega) e k hk (hnxk k hk2)
        · rw [upd_n q]
          rcases hJ s hs2 with g | ⟨j, hj, g1, g2, g3, g4, g5⟩
          · exact Or.inl g
          · have jn : j ≠ nx := fun r => nI_neg1 (show s < 2 ^ 31 by omega) (g1.symm.trans (by rw [r]; exact hok2.2.2))
            exact Or.inr ⟨j, hj, by rw [upd_n jn]; exact g1, g2, g3, g4, fun k hk hk2 => g5 k hk (hnxk k hk2)⟩
      · show cnt (nxB (A 16) (A 20) (upd S.1 nx (nI ch)) c) nb ≤ f
        have : cnt (nxB (A 16) (A 20) S.1 c) nb = cnt (nxB (A 16) (A 20) (upd S.1 nx (nI ch)) c) nb + 1 := by
          refine cnt_one (k := nx) hok ?_ hnx (fun j _ e => ?_)
          · unfold nxB; rw [upd_s]; exact decide_eq_false (fun q => nI_neg1 (show ch < 2 ^ 31 by omega) q.2.2)
          · unfold nxB; rw [upd_n e]
        omega
/-- those that stay, placed by both -/
theorem pl_ps (h : Same A B nc ns nz nb nr t) (hi : Inv A nc ns nb nr t) (c : Int32) {p0 b0 q0 l0 : Nat → Int32} (hp : ∀ j, j < 60 → p0 j = -1) (hb0 : ∀ s, s < 16 → b0 s = -1) (hl0 : ∀ s, s < 16 → l0 s = -1) : ∀ k, k ≤ nb →
    (∀ j, j < k → (psS (A 16) (A 18) (A 20) (A 21) c (p0, b0) k).1 j = (psR B nz c (q0, l0, 0, 0) k).1 j) ∧ (∀ s, s < 16 → (psS (A 16) (A 18) (A 20) (A 21) c (p0, b0) k).2 s = (psR B nz c (q0, l0, 0, 0) k).2.1 s) ∧ (psR B nz c (q0, l0, 0, 0) k).2.2.1 = 0 ∧ (psR B nz c (q0, l0, 0, 0) k).2.2.2 = 0 ∧ (∀ j, k ≤ j → j < 60 → (psS (A 16) (A 18) (A 20) (A 21) c (p0, b0) k).1 j = -1) ∧ (∀ s, s < 16 → (psS (A 16) (A 18) (A 20) (A 21) c (p0, b0) k).2 s = -1 ∨ ∃ j, j < k ∧ A 20 j = 1 ∧ A 16 j = c ∧ A 21 j = nI s ∧ A 18 j = (psS (A 16) (A 18) (A 20) (A 21) c (p0, b0) k).2 s ∧ (psS (A 16) (A 18) (A 20) (A 21) c (p0, b0) k).1 j = nI s)
  | 0, _ => ⟨fun j hj => absurd hj (by omega), fun s hs => (hb0 s hs).trans (hl0 s hs).symm, rfl, rfl, fun j _ hj => hp j hj, fun s hs => Or.inl (hb0 s hs)⟩
  | k + 1, hk => by
    have hs := h.1.2.2.2.1
    have hl := h.1.2.2.2.2.2.2.2.1
    have hr := h.2.2.2.2.2.1
    obtain ⟨i1, i2, i3, i4, i5, i6⟩ := pl_ps h hi c hp hb0 hl0 (q0 := q0) k (by omega)
    have r20 := hr.2.2.2.2.1 k (by omega)
    have r16 := hr.1 k (by omega)
    have r21 := hr.2.2.2.2.2 k (by omega)
    have r18 := hr.2.2.1 k (by omega)
    by_cases q : A 20 k = 1 ∧ A 16 k = c
    · obtain ⟨kc, a, d, -, -, ea, ed, had, hd9, -, hst⟩ := hi.2.1 k (by omega)
      obtain ⟨g1, g2, s0, g3, g4, g5, g6⟩ := hst q.1
      have hcond : A 20 k = 1 ∧ A 16 k = c ∧ 0 ≤ A 21 k ∧ A 21 k < 16 := ⟨q.1, q.2, by rw [g4]; exact nI_pos' (by omega), by rw [g4]; exact (lt_nI (b := 16) (by omega) (by decide)).mpr (by omega)⟩
      have c21 : (A 21 k).toNatClampNeg = s0 := cl_of g4 (by omega)
      rw [ps_t hcond, psR_t (r20 ▸ r16 ▸ q)]
      unfold plcR
      rw [← r21, c21, ← r18]
      have hfree : (psS (A 16) (A 18) (A 20) (A 21) c (p0, b0) k).2 s0 = -1 := by
        rcases i6 s0 (by omega) with e | ⟨j, hj, j1, j2, j3, -⟩
        · exact e
        · exact absurd (hi.2.2.1 j k (by omega) (by omega) j1 q.1 (j3.trans g4.symm)) (by omega)
      have hfree2 : (psR B nz c (q0, l0, 0, 0) k).2.1 s0 = -1 := by rw [← i2 s0 (by omega)]; exact hfree
      refine ⟨fun j hj => ?_, fun s hs2 => ?_, ?_, ?_, fun j h1 h2 => ?_, fun s hs2 => ?_⟩
      · show upd _ k (A 21 k) j = upd (upd _ k (-1)) k (A 21 k) j
        by_cases e : j = k
        · rw [e, upd_s, upd_s]
        · rw [upd_n e, upd_n e, upd_n e]; exact i1 j (by omega)
      · show upd _ s0 (A 18 k) s = upd _ s0 (A 18 k) s
        by_cases e : s = s0
        · rw [e, upd_s, upd_s]
        · rw [upd_n e, upd_n e]; exact i2 s hs2
      · show (if (psR B nz c (q0, l0, 0, 0) k).2.1 s0 = -1 then (psR B nz c (q0, l0, 0, 0) k).2.2.1 else _) = 0
        rw [if_pos hfree2]; exact i3
      · show (if (psR B nz c (q0, l0, 0, 0) k).2.1 s0 = -1 then (psR B nz c (q0, l0, 0, 0) k).2.2.2 else _) = 0
        rw [if_pos hfree2]; exact i4
      · show upd _ k (A 21 k) j = -1
        rw [upd_n (by omega)]; exact i5 j (by omega) h2
      · show upd _ s0 (A 18 k) s = -1 ∨ ∃ j, j < k + 1 ∧ A 20 j = 1 ∧ A 16 j = c ∧ A 21 j = nI s ∧ A 18 j = upd _ s0 (A 18 k) s ∧ upd _ k (A 21 k) j = nI s
        by_cases e : s = s0
        · exact Or.inr ⟨k, by omega, q.1, q.2, by rw [e]; exact g4, by rw [e, upd_s], by rw [upd_s, e]; exact g4⟩
        · rw [upd_n e]
          rcases i6 s hs2 with g | ⟨j, hj, j1, j2, j3, j4, j5⟩
          · exact Or.inl g
          · exact Or.inr ⟨j, by omega, j1, j2, j3, j4, by rw [upd_n (by omega)]; exact j5⟩
    · rw [ps_f (fun r => q ⟨r.1, r.2.1⟩), psR_f (fun r => q (by rw [r20, r16]; exact r))]
      refine ⟨fun j hj => ?_, i2, i3, i4, fun j h1 h2 => i5 j (by omega) h2, fun s hs2 => ?_⟩
      · show _ = upd _ k (-1) j
        by_cases e : j = k
        · rw [e, upd_s]; exact i5 k (by omega) (by omega)
        · rw [upd_n e]; exact i1 j (by omega)
      · rcases i6 s hs2 with g | ⟨j, hj, j1⟩
        · exact Or.inl g
        · exact Or.inr ⟨j, by omega, j1⟩
theorem u_plan (h : Same A B nc ns nz nb nr t) (hi : Inv A nc ns nb nr t) (c pol : Int32) : ∃ S, plA B ns nb nz c pol 61 = some S ∧ PRl nb (planM A ns nb nz c pol) S := by
  have hl := h.1.2.2.2.2.2.2.2.1
  have hr := h.2.2.2.2.2.1
  obtain ⟨i1, i2, i3, i4, i5, i6⟩ := pl_ps h hi c (p0 := mapK (fun _ => -1) (A 59) 60) (b0 := mapK (fun _ => -1) (A 60) 16) (q0 := B 68) (l0 := mapK (fun _ => -1) (B 69) 16) (fun j hj => if_pos hj) (fun s hs => if_pos hs) (fun s hs => if_pos hs) nb (Nat.le_refl _)
  unfold plA planM
  generalize psS (A 16) (A 18) (A 20) (A 21) c (mapK (fun _ => -1) (A 59) 60, mapK (fun _ => -1) (A 60) 16) nb = P at i1 i2 i5 i6 ⊢
  generalize psR B nz c (B 68, mapK (fun _ => -1) (B 69) 16, 0, 0) nb = R at i1 i2 i3 i4 ⊢
  have hPR : PRl nb (P.1, P.2, 0, 0) R := ⟨i1, i2, i3.symm, i4.symm⟩
  have hJ : PJ2 A nb c (P.1, P.2, 0, 0) := by
    intro s hs
    rcases i6 s hs with g | ⟨j, hj, j1, j2, j3, j4, j5⟩
    · exact Or.inl g
    · refine Or.inr ⟨j, hj, j5, j2, Or.inr j1, j4, fun k hk hk2 => ?_⟩
      have q := of_decide_eq_true (show decide (A 20 k = 0 ∧ A 16 k = c ∧ P.1 k = -1) = true from hk2)
      obtain ⟨-, a, d, -, -, ea, -, had, hd9, -, hst⟩ := hi.2.1 j hj
      obtain ⟨-, a2, d2, -, -, ea2, -, had2, hd92, hbk, -⟩ := hi.2.1 k hk
      have g1 := (hst j1).1
      have g2 := hbk q.1
      rw [ea, ea2]
      exact (le_nI (by omega) (by omega)).mpr (by omega)
  have hw : cnt (nxB (A 16) (A 20) P.1 c) nb ≤ nb := cnt_le _ _
  obtain ⟨S2, s1, s2⟩ := pl_run h hi c pol nb (P.1, P.2, 0, 0) R hPR hJ hw
  refine ⟨S2, ?_, s2⟩
  exact pl_fuel (by omega) s1
end Plan
