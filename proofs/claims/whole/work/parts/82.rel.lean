/-! ===== THE RELATION OF THE TWO WORLDS ===== -/
def byt (x y : Int32) : Prop := (∃ b : Nat, b < 128 ∧ x = nI b ∧ y = nI b) ∨ (x < 0 ∧ ∃ b : Nat, 128 ≤ b ∧ b < 256 ∧ y = nI b)
def Tx (A B : Nat → Nat → Int32) : Prop := ∃ L : Nat, A 0 7 = nI L ∧ B 63 10 = nI L ∧ L ≤ 500 ∧ ∀ k, k < 500 → byt (A 61 k) (B 70 k)
def Er (A B : Nat → Nat → Int32) : Prop := A 62 7 = B 63 16 ∧ A 62 8 = B 63 17
def shA (A : Nat → Nat → Int32) (b : Nat) : Nat → Nat → Int32 := fun i => A (i + (b - 1))
def svB (B : Nat → Nat → Int32) (k : Nat) : Nat → Nat → Int32 := fun _ p => B 66 (572 * k + p)
def Sv (G : AG) (A B : Nat → Nat → Int32) (n : Nat) : Prop := (∀ k, 2 ≤ k → G.1 k = none) ∧ ((n = 72 ∧ G.1 0 = none ∧ G.1 1 = none) ∨ (n = 99 ∧ ((G.1 0 = some 72 ∧ G.1 1 = none) ∨ (G.1 0 = none ∧ G.1 1 = some 72))) ∨ (n = 126 ∧ ((G.1 0 = some 72 ∧ G.1 1 = some 99) ∨ (G.1 0 = some 99 ∧ G.1 1 = some 72)))) ∧ ∀ k, k < 2 → (G.1 k = none ∧ B 67 k = 0) ∨ ∃ b, G.1 k = some b ∧ (b = 72 ∨ b = 99) ∧ ¬ B 67 k = 0 ∧ St (shA A b) (svB B k)
def Rel (G : AG) (A B : Nat → Nat → Int32) (n : Nat) : Prop := St A B ∧ Tx A B ∧ Er A B ∧ Sv G A B n
def cA (A : Nat → Nat → Int32) : Nat → Nat → Int32 := fun i => if 1 ≤ i ∧ i < 28 then A i else fun _ => 0
theorem cA_eq {A A' : Nat → Nat → Int32} (h : ∀ i, 1 ≤ i → i < 28 → A' i = A i) : cA A' = cA A := by
  funext i; unfold cA; split
  · rename_i q; exact h i q.1 q.2
  · rfl
theorem same_A {A B : Nat → Nat → Int32} {nc ns nz nb nr t : Nat} : Same A B nc ns nz nb nr t = Same (cA A) B nc ns nz nb nr t := rfl
theorem inv_A {A : Nat → Nat → Int32} {nc ns nb nr t : Nat} : Inv A nc ns nb nr t = Inv (cA A) nc ns nb nr t := rfl
theorem same_cg {A A' B B' : Nat → Nat → Int32} {nc ns nz nb nr t : Nat} (h : Same A B nc ns nz nb nr t) (hA : ∀ i, 1 ≤ i → i < 28 → A' i = A i) (hB : B' 64 = B 64) : Same A' B' nc ns nz nb nr t := by
  rw [same_A, cA_eq hA, ← same_A]
  unfold Same CR RWq at h ⊢
  rw [V_eq hB, hB]
  exact h
theorem inv_c {A A' : Nat → Nat → Int32} {nc ns nb nr t : Nat} (h : Inv A nc ns nb nr t) (hA : ∀ i, 1 ≤ i → i < 28 → A' i = A i) : Inv A' nc ns nb nr t := by
  rw [inv_A, cA_eq hA, ← inv_A]; exact h
theorem st_cg {A A' B B' : Nat → Nat → Int32} (h : St A B) (hA : ∀ i, 1 ≤ i → i < 28 → A' i = A i) (hB : B' 64 = B 64) : St A' B' := by
  obtain ⟨nc, ns, nz, nb, nr, t, h1, h2⟩ := h
  exact ⟨nc, ns, nz, nb, nr, t, same_cg h1 hA hB, inv_c h2 hA⟩
theorem tx_cg {A A' B B' : Nat → Nat → Int32} (h : Tx A B) (h0 : A' 0 = A 0) (h61 : A' 61 = A 61) (hB : B' 63 10 = B 63 10) (h70 : B' 70 = B 70) : Tx A' B' := by
  unfold Tx at h ⊢; rw [h0, h61, hB, h70]; exact h
theorem er_cg {A A' B B' : Nat → Nat → Int32} (h : Er A B) (h62 : A' 62 = A 62) (h16 : B' 63 16 = B 63 16) (h17 : B' 63 17 = B 63 17) : Er A' B' := by
  unfold Er at h ⊢; rw [h62, h16, h17]; exact h
theorem sv_cg {G G' : AG} {A A' B B' : Nat → Nat → Int32} {n : Nat} (h : Sv G A B n) (hG : G'.1 = G.1) (hA : ∀ i, 72 ≤ i → A' i = A i) (h66 : B' 66 = B 66) (h67 : B' 67 = B 67) : Sv G' A' B' n := by
  obtain ⟨h1, h2, h3⟩ := h
  unfold Sv
  rw [hG]
  refine ⟨h1, h2, fun k hk => ?_⟩
  rcases h3 k hk with ⟨q1, q2⟩ | ⟨b, q1, q2, q3, q4⟩
  · exact Or.inl ⟨q1, by rw [h67]; exact q2⟩
  · refine Or.inr ⟨b, q1, q2, by rw [h67]; exact q3, st_cg q4 (fun i h1 h2 => hA _ (by omega)) ?_⟩
    unfold svB; rw [h66]
/-- the same but for what is of no account -/
theorem rel_cg {G G' : AG} {A A' B B' : Nat → Nat → Int32} {n : Nat} (h : Rel G A B n) (hG : G'.1 = G.1) (hA : ∀ i, ¬ scr i → (i < 63 ∨ 72 ≤ i) → A' i = A i) (hB : ∀ i, (i = 64 ∨ i = 66 ∨ i = 67 ∨ i = 70) → B' i = B i) (h63 : ∀ j, j ≠ 4 → j ≠ 7 → j ≠ 8 → B' 63 j = B 63 j) : Rel G' A' B' n :=
  ⟨st_cg h.1 (fun i h1 h2 => hA i (by unfold scr; omega) (by omega)) (hB 64 (by decide)), tx_cg h.2.1 (hA 0 (by unfold scr; omega) (by omega)) (hA 61 (by unfold scr; omega) (by omega)) (h63 10 (by decide) (by decide) (by decide)) (hB 70 (by decide)), er_cg h.2.2.1 (hA 62 (by unfold scr; omega) (by omega)) (h63 16 (by decide) (by decide) (by decide)) (h63 17 (by decide) (by decide) (by decide)), sv_cg h.2.2.2 hG (fun i hi => hA i (by unfold scr; omega) (by omega)) (hB 66 (by decide)) (hB 67 (by decide))⟩
/-- a write of the camps alone -/
theorem rel_st {G : AG} {A A' B B' : Nat → Nat → Int32} {n : Nat} (h : Rel G A B n) (hA : ∀ i, (i = 0 ∨ 28 ≤ i) → A' i = A i) (hB : ∀ i, i ≠ 64 → B' i = B i) (hs : St A' B') : Rel G A' B' n :=
  ⟨hs, tx_cg h.2.1 (hA 0 (by omega)) (hA 61 (by omega)) (by rw [hB 63 (by decide)]) (hB 70 (by decide)), er_cg h.2.2.1 (hA 62 (by omega)) (by rw [hB 63 (by decide)]) (by rw [hB 63 (by decide)]), sv_cg h.2.2.2 rfl (fun i hi => hA i (by omega)) (hB 66 (by decide)) (hB 67 (by decide))⟩
/-- behind both calls -/
theorem rel_fin {G G2 : AG} {A' B' M' M2 : Nat → Nat → Int32} {n : Nat} (h : Rel G A' B' n) (hG : G2.1 = G.1) (hs : SEq M' A') (hk : ∀ i, i ≠ 64 → B' i = M' i) (hr : RS B' M2) : Rel G2 M2 M2 n := by
  refine rel_cg h hG (fun i h1 h2 => ?_) (fun i hi => ?_) (fun j h1 h2 h3 => hr.2 j h1 h2 h3)
  · rw [hr.1 i (by omega) (by omega) (by omega), hk i (by omega)]
    exact hs i h1
  · exact hr.1 i (by omega) (by omega) (by omega)
theorem rel_B {G : AG} {M M' : Nat → Nat → Int32} {n : Nat} (h : Rel G M M n) (hq : ∀ i, 28 ≤ i → ¬ scr i → M' i = M i) : Rel G M M' n :=
  rel_cg h rfl (fun _ _ _ => rfl) (fun i hi => hq i (by omega) (by unfold scr; omega)) (fun j _ _ _ => by rw [hq 63 (by omega) (by unfold scr; omega)])
theorem seq_28 {M M' A' : Nat → Nat → Int32} (hs : SEq M' A') (hk : ∀ i, (i = 0 ∨ 28 ≤ i) → A' i = M i) : ∀ i, 28 ≤ i → ¬ scr i → M' i = M i := fun i h1 h2 => (hs i h2).trans (hk i (Or.inr h1))
section Kept
variable {A B : Nat → Nat → Int32}
theorem kc_addClass {k : Nat} {w s q : Int32} : ∀ i, (i = 0 ∨ 28 ≤ i) → addC A k w s q i = A i := fun i hi => by
  unfold addC; rw [updM_n (by omega), updM_n (by omega), updM_n (by omega), updM_n (by omega)]
theorem kc_addSite {k : Nat} {c : Int32} : ∀ i, (i = 0 ∨ 28 ≤ i) → addS A k c i = A i := fun i hi => by
  unfold addS; rw [updM_n (by omega), updM_n (by omega), updM_n (by omega)]
theorem kc_addSeason {k : Nat} {c f l m p : Int32} : ∀ i, (i = 0 ∨ 28 ≤ i) → addZ A k c f l m p i = A i := fun i hi => by
  unfold addZ; rw [updM_n (by omega), updM_n (by omega), updM_n (by omega), updM_n (by omega), updM_n (by omega), updM_n (by omega)]
theorem kc_book {k : Nat} {c a d p : Int32} : ∀ i, (i = 0 ∨ 28 ≤ i) → addB A k c a d p i = A i := fun i hi => by
  unfold addB; rw [updM_n (by omega), updM_n (by omega), updM_n (by omega), updM_n (by omega), updM_n (by omega), updM_n (by omega), updM_n (by omega)]
theorem kc_request {k : Nat} {c a m : Int32} : ∀ i, (i = 0 ∨ 28 ≤ i) → addR A k c a m i = A i := fun i hi => by
  unfold addR; rw [updM_n (by omega), updM_n (by omega), updM_n (by omega), updM_n (by omega), updM_n (by omega), updM_n (by omega)]
theorem kc_1 {j : Nat} {r : Nat → Int32} (h : 1 ≤ j ∧ j < 28) : ∀ i, (i = 0 ∨ 28 ≤ i) → updM A j r i = A i := fun i hi => updM_n (by omega)
theorem kc_2 {j j2 : Nat} {r r2 : Nat → Int32} (h : (1 ≤ j ∧ j < 28) ∧ 1 ≤ j2 ∧ j2 < 28) : ∀ i, (i = 0 ∨ 28 ≤ i) → updM (updM A j r) j2 r2 i = A i := fun i hi => by rw [updM_n (by omega), updM_n (by omega)]
theorem kc_3 {j j2 j3 : Nat} {r r2 r3 : Nat → Int32} (h : (1 ≤ j ∧ j < 28) ∧ (1 ≤ j2 ∧ j2 < 28) ∧ 1 ≤ j3 ∧ j3 < 28) : ∀ i, (i = 0 ∨ 28 ≤ i) → updM (updM (updM A j r) j2 r2) j3 r3 i = A i := fun i hi => by rw [updM_n (by omega), updM_n (by omega), updM_n (by omega)]
theorem kc_enD {nb nr : Nat} : ∀ i, (i = 0 ∨ 28 ≤ i) → enD A nb nr i = A i := fun i hi => by
  unfold enD; rw [updM_n (by omega), updM_n (by omega), updM_n (by omega)]
theorem kc_enDn {nb nr : Nat} : ∀ k i, (i = 0 ∨ 28 ≤ i) → enDn A nb nr k i = A i
  | 0, i, _ => rfl
  | k + 1, i, hi => by rw [enDn, kc_enD i hi]; exact kc_enDn k i hi
theorem kc_bkReqM {k : Nat} : ∀ i, (i = 0 ∨ 28 ≤ i) → bkReqM A k i = A i := fun i hi => by
  unfold bkReqM bkReq
  rw [updM_n (by omega), updM_n (by omega)]
  exact kc_book i hi
theorem kc_flM {c : Int32} : ∀ (f : Nat) {A : Nat → Nat → Int32} (i : Nat), (i = 0 ∨ 28 ≤ i) → (flM c f A).2 i = A i
  | 0, A, i, _ => rfl
  | f + 1, A, i, hi => by
    unfold flM
    split
    · rfl
    · split
      · rfl
      · exact (kc_flM f i hi).trans (kc_bkReqM i hi)
theorem kr_w {j : Nat} {x : Int32} : ∀ i, i ≠ 64 → w64 B j x i = B i := fun i hi => updM_n hi
theorem kr_2 {j j2 : Nat} {x x2 : Int32} : ∀ i, i ≠ 64 → w64 (w64 B j x) j2 x2 i = B i := fun i hi => by rw [kr_w i hi, kr_w i hi]
theorem kr_3 {j j2 j3 : Nat} {x x2 x3 : Int32} : ∀ i, i ≠ 64 → w64 (w64 (w64 B j x) j2 x2) j3 x3 i = B i := fun i hi => by rw [kr_w i hi, kr_2 i hi]
theorem kr_addClass {k : Nat} {w s q : Int32} : ∀ i, i ≠ 64 → appendClassM B k w s q i = B i := fun i hi => by unfold appendClassM; rw [kr_w i hi, kr_3 i hi]
theorem kr_addSite {k : Nat} {c : Int32} : ∀ i, i ≠ 64 → appendSiteM B k c i = B i := fun i hi => by unfold appendSiteM; rw [kr_3 i hi]
theorem kr_addSeason {k : Nat} {c f l m p : Int32} : ∀ i, i ≠ 64 → appendSeasonM B k c f l m p i = B i := fun i hi => by unfold appendSeasonM; rw [kr_3 i hi, kr_3 i hi]
theorem kr_book {k : Nat} {c a m p : Int32} : ∀ i, i ≠ 64 → appendBookingM B k c a m p i = B i := fun i hi => by unfold appendBookingM; rw [kr_3 i hi, kr_3 i hi, kr_w i hi]
theorem kr_request {k : Nat} {c a m : Int32} : ∀ i, i ≠ 64 → appendRequestM B k c a m i = B i := fun i hi => by unfold appendRequestM; rw [kr_3 i hi, kr_3 i hi]
theorem kr_edB {t : Int32} : ∀ k i, i ≠ 64 → edB B t k i = B i
  | 0, _, _ => rfl
  | k + 1, i, hi => by rw [edB, kr_w i hi]; exact kr_edB k i hi
theorem kr_edQ {t : Int32} : ∀ k i, i ≠ 64 → edQ B t k i = B i
  | 0, _, _ => rfl
  | k + 1, i, hi => by rw [edQ, kr_w i hi]; exact kr_edQ k i hi
theorem kr_edN {nb nr : Nat} : ∀ k i, i ≠ 64 → edN B nb nr k i = B i
  | 0, _, _ => rfl
  | k + 1, i, hi => by rw [edN, edM, kr_w i hi, kr_edQ _ i hi, kr_edB _ i hi]; exact kr_edN k i hi
theorem kr_gr {c : Int32} {k : Nat} : ∀ i, i ≠ 64 → grR B c k i = B i := fun i hi => by unfold grR; rw [kr_2 i hi, kr_book i hi]
theorem kr_fl {c : Int32} : ∀ (f : Nat) {B : Nat → Nat → Int32} {r : Nat × (Nat → Nat → Int32)}, flR c f B = some r → ∀ i, i ≠ 64 → r.2 i = B i
  | 0, _, _, h, _, _ => by cases h
  | f + 1, B, r, h, i, hi => by
    unfold flR at h
    split at h
    · cases h; rfl
    · cases h3 : flR c f (grR B c (rqR B c).toNatClampNeg) with
      | none => rw [h3] at h; cases h
      | some r2 => rw [h3] at h; cases h; exact (kr_fl f h3 i hi).trans (kr_gr i hi)
end Kept
