theorem eb_3 {B : Nat → Nat → Int32} {t : Int32} : ∀ k, k ≤ 60 → V (edB B t k) 3 = V B 3
  | 0, _ => rfl
  | k + 1, h => by rw [edB, vw_112_3 (show k < 60 by omega) (by decide), eb_3 k (by omega)]
theorem eb_4 {B : Nat → Nat → Int32} {t : Int32} : ∀ k, k ≤ 60 → V (edB B t k) 4 = V B 4
  | 0, _ => rfl
  | k + 1, h => by rw [edB, vw_112_4 (show k < 60 by omega) (by decide), eb_4 k (by omega)]
theorem eb_5 {B : Nat → Nat → Int32} {t : Int32} : ∀ k, k ≤ 60 → V (edB B t k) 5 = V B 5
  | 0, _ => rfl
  | k + 1, h => by rw [edB, vw_112_5 (show k < 60 by omega) (by decide), eb_5 k (by omega)]
theorem eb_7 {B : Nat → Nat → Int32} {t : Int32} : ∀ k, k ≤ 60 → V (edB B t k) 7 = V B 7
  | 0, _ => rfl
  | k + 1, h => by rw [edB, vw_112_7 (show k < 60 by omega) (by decide), eb_7 k (by omega)]
theorem eb_8 {B : Nat → Nat → Int32} {t : Int32} : ∀ k, k ≤ 60 → V (edB B t k) 8 = V B 8
  | 0, _ => rfl
  | k + 1, h => by rw [edB, vw_112_8 (show k < 60 by omega) (by decide), eb_8 k (by omega)]
theorem eb_10 {B : Nat → Nat → Int32} {t : Int32} : ∀ k, k ≤ 60 → V (edB B t k) 10 = V B 10
  | 0, _ => rfl
  | k + 1, h => by rw [edB, vw_112_10 (show k < 60 by omega) (by decide), eb_10 k (by omega)]
theorem eb_11 {B : Nat → Nat → Int32} {t : Int32} : ∀ k, k ≤ 60 → V (edB B t k) 11 = V B 11
  | 0, _ => rfl
  | k + 1, h => by rw [edB, vw_112_11 (show k < 60 by omega) (by decide), eb_11 k (by omega)]
theorem eb_12 {B : Nat → Nat → Int32} {t : Int32} : ∀ k, k ≤ 60 → V (edB B t k) 12 = V B 12
  | 0, _ => rfl
  | k + 1, h => by rw [edB, vw_112_12 (show k < 60 by omega) (by decide), eb_12 k (by omega)]
theorem eb_13 {B : Nat → Nat → Int32} {t : Int32} : ∀ k, k ≤ 60 → V (edB B t k) 13 = V B 13
  | 0, _ => rfl
  | k + 1, h => by rw [edB, vw_112_13 (show k < 60 by omega) (by decide), eb_13 k (by omega)]
theorem eb_14 {B : Nat → Nat → Int32} {t : Int32} : ∀ k, k ≤ 60 → V (edB B t k) 14 = V B 14
  | 0, _ => rfl
  | k + 1, h => by rw [edB, vw_112_14 (show k < 60 by omega) (by decide), eb_14 k (by omega)]
theorem eb_16 {B : Nat → Nat → Int32} {t : Int32} : ∀ k, k ≤ 60 → V (edB B t k) 16 = V B 16
  | 0, _ => rfl
  | k + 1, h => by rw [edB, vw_112_16 (show k < 60 by omega) (by decide), if_neg (by decide), eb_16 k (by omega)]
theorem eb_17 {B : Nat → Nat → Int32} {t : Int32} : ∀ k, k ≤ 60 → V (edB B t k) 17 = V B 17
  | 0, _ => rfl
  | k + 1, h => by rw [edB, vw_112_17 (show k < 60 by omega) (by decide), if_neg (by decide), eb_17 k (by omega)]
theorem eb_18 {B : Nat → Nat → Int32} {t : Int32} : ∀ k, k ≤ 60 → V (edB B t k) 18 = V B 18
  | 0, _ => rfl
  | k + 1, h => by rw [edB, vw_112_18 (show k < 60 by omega) (by decide), if_neg (by decide), eb_18 k (by omega)]
theorem eb_19 {B : Nat → Nat → Int32} {t : Int32} : ∀ k, k ≤ 60 → V (edB B t k) 19 = V B 19
  | 0, _ => rfl
  | k + 1, h => by rw [edB, vw_112_19 (show k < 60 by omega) (by decide), if_neg (by decide), eb_19 k (by omega)]
theorem eb_21 {B : Nat → Nat → Int32} {t : Int32} : ∀ k, k ≤ 60 → V (edB B t k) 21 = V B 21
  | 0, _ => rfl
  | k + 1, h => by rw [edB, vw_112_21 (show k < 60 by omega) (by decide), if_neg (by decide), eb_21 k (by omega)]
theorem eb_23 {B : Nat → Nat → Int32} {t : Int32} : ∀ k, k ≤ 60 → V (edB B t k) 23 = V B 23
  | 0, _ => rfl
  | k + 1, h => by rw [edB, vw_112_23 (show k < 60 by omega) (by decide), eb_23 k (by omega)]
theorem eb_24 {B : Nat → Nat → Int32} {t : Int32} : ∀ k, k ≤ 60 → V (edB B t k) 24 = V B 24
  | 0, _ => rfl
  | k + 1, h => by rw [edB, vw_112_24 (show k < 60 by omega) (by decide), eb_24 k (by omega)]
theorem eb_25 {B : Nat → Nat → Int32} {t : Int32} : ∀ k, k ≤ 60 → V (edB B t k) 25 = V B 25
  | 0, _ => rfl
  | k + 1, h => by rw [edB, vw_112_25 (show k < 60 by omega) (by decide), eb_25 k (by omega)]
theorem eb_26 {B : Nat → Nat → Int32} {t : Int32} : ∀ k, k ≤ 60 → V (edB B t k) 26 = V B 26
  | 0, _ => rfl
  | k + 1, h => by rw [edB, vw_112_26 (show k < 60 by omega) (by decide), eb_26 k (by omega)]
theorem eb_27 {B : Nat → Nat → Int32} {t : Int32} : ∀ k, k ≤ 60 → V (edB B t k) 27 = V B 27
  | 0, _ => rfl
  | k + 1, h => by rw [edB, vw_112_27 (show k < 60 by omega) (by decide), eb_27 k (by omega)]
theorem eb_20 {B : Nat → Nat → Int32} {t : Int32} : ∀ k, k ≤ 60 → V (edB B t k) 20 = mapK (fun b => enR (V B 17 b) (V B 18 b) (V B 20 b) t) (V B 20) k
  | 0, _ => (mapK_0 _ _).symm
  | k + 1, h => by
    rw [edB, vw_112_20 (show k < 60 by omega) (by decide), if_pos rfl, eb_17 k (by omega), eb_18 k (by omega), eb_20 k (by omega), mapK_at]
    exact mapK_put rfl
theorem eq'_3 {B : Nat → Nat → Int32} {t : Int32} : ∀ k, k ≤ 20 → V (edQ B t k) 3 = V B 3
  | 0, _ => rfl
  | k + 1, h => by rw [edQ, vw_472_3 (show k < 20 by omega) (by decide), eq'_3 k (by omega)]
theorem eq'_4 {B : Nat → Nat → Int32} {t : Int32} : ∀ k, k ≤ 20 → V (edQ B t k) 4 = V B 4
  | 0, _ => rfl
  | k + 1, h => by rw [edQ, vw_472_4 (show k < 20 by omega) (by decide), eq'_4 k (by omega)]
theorem eq'_5 {B : Nat → Nat → Int32} {t : Int32} : ∀ k, k ≤ 20 → V (edQ B t k) 5 = V B 5
  | 0, _ => rfl
  | k + 1, h => by rw [edQ, vw_472_5 (show k < 20 by omega) (by decide), eq'_5 k (by omega)]
theorem eq'_7 {B : Nat → Nat → Int32} {t : Int32} : ∀ k, k ≤ 20 → V (edQ B t k) 7 = V B 7
  | 0, _ => rfl
  | k + 1, h => by rw [edQ, vw_472_7 (show k < 20 by omega) (by decide), eq'_7 k (by omega)]
theorem eq'_8 {B : Nat → Nat → Int32} {t : Int32} : ∀ k, k ≤ 20 → V (edQ B t k) 8 = V B 8
  | 0, _ => rfl
  | k + 1, h => by rw [edQ, vw_472_8 (show k < 20 by omega) (by decide), eq'_8 k (by omega)]
theorem eq'_10 {B : Nat → Nat → Int32} {t : Int32} : ∀ k, k ≤ 20 → V (edQ B t k) 10 = V B 10
  | 0, _ => rfl
  | k + 1, h => by rw [edQ, vw_472_10 (show k < 20 by omega) (by decide), eq'_10 k (by omega)]
theorem eq'_11 {B : Nat → Nat → Int32} {t : Int32} : ∀ k, k ≤ 20 → V (edQ B t k) 11 = V B 11
  | 0, _ => rfl
  | k + 1, h => by rw [edQ, vw_472_11 (show k < 20 by omega) (by decide), eq'_11 k (by omega)]
theorem eq'_12 {B : Nat → Nat → Int32} {t : Int32} : ∀ k, k ≤ 20 → V (edQ B t k) 12 = V B 12
  | 0, _ => rfl
  | k + 1, h => by rw [edQ, vw_472_12 (show k < 20 by omega) (by decide), eq'_12 k (by omega)]
theorem eq'_13 {B : Nat → Nat → Int32} {t : Int32} : ∀ k, k ≤ 20 → V (edQ B t k) 13 = V B 13
  | 0, _ => rfl
  | k + 1, h => by rw [edQ, vw_472_13 (show k < 20 by omega) (by decide), eq'_13 k (by omega)]
theorem eq'_14 {B : Nat → Nat → Int32} {t : Int32} : ∀ k, k ≤ 20 → V (edQ B t k) 14 = V B 14
  | 0, _ => rfl
  | k + 1, h => by rw [edQ, vw_472_14 (show k < 20 by omega) (by decide), eq'_14 k (by omega)]
theorem eq'_16 {B : Nat → Nat → Int32} {t : Int32} : ∀ k, k ≤ 20 → V (edQ B t k) 16 = V B 16
  | 0, _ => rfl
  | k + 1, h => by rw [edQ, vw_472_16 (show k < 20 by omega) (by decide), eq'_16 k (by omega)]
theorem eq'_17 {B : Nat → Nat → Int32} {t : Int32} : ∀ k, k ≤ 20 → V (edQ B t k) 17 = V B 17
  | 0, _ => rfl
  | k + 1, h => by rw [edQ, vw_472_17 (show k < 20 by omega) (by decide), eq'_17 k (by omega)]
theorem eq'_18 {B : Nat → Nat → Int32} {t : Int32} : ∀ k, k ≤ 20 → V (edQ B t k) 18 = V B 18
  | 0, _ => rfl
  | k + 1, h => by rw [edQ, vw_472_18 (show k < 20 by omega) (by decide), eq'_18 k (by omega)]
theorem eq'_19 {B : Nat → Nat → Int32} {t : Int32} : ∀ k, k ≤ 20 → V (edQ B t k) 19 = V B 19
  | 0, _ => rfl
  | k + 1, h => by rw [edQ, vw_472_19 (show k < 20 by omega) (by decide), eq'_19 k (by omega)]
theorem eq'_20 {B : Nat → Nat → Int32} {t : Int32} : ∀ k, k ≤ 20 → V (edQ B t k) 20 = V B 20
  | 0, _ => rfl
  | k + 1, h => by rw [edQ, vw_472_20 (show k < 20 by omega) (by decide), eq'_20 k (by omega)]
theorem eq'_21 {B : Nat → Nat → Int32} {t : Int32} : ∀ k, k ≤ 20 → V (edQ B t k) 21 = V B 21
  | 0, _ => rfl
  | k + 1, h => by rw [edQ, vw_472_21 (show k < 20 by omega) (by decide), eq'_21 k (by omega)]
theorem eq'_23 {B : Nat → Nat → Int32} {t : Int32} : ∀ k, k ≤ 20 → V (edQ B t k) 23 = V B 23
  | 0, _ => rfl
  | k + 1, h => by rw [edQ, vw_472_23 (show k < 20 by omega) (by decide), if_neg (by decide), eq'_23 k (by omega)]
theorem eq'_24 {B : Nat → Nat → Int32} {t : Int32} : ∀ k, k ≤ 20 → V (edQ B t k) 24 = V B 24
  | 0, _ => rfl
  | k + 1, h => by rw [edQ, vw_472_24 (show k < 20 by omega) (by decide), if_neg (by decide), eq'_24 k (by omega)]
theorem eq'_25 {B : Nat → Nat → Int32} {t : Int32} : ∀ k, k ≤ 20 → V (edQ B t k) 25 = V B 25
  | 0, _ => rfl
  | k + 1, h => by rw [edQ, vw_472_25 (show k < 20 by omega) (by decide), if_neg (by decide), eq'_25 k (by omega)]
theorem eq'_27 {B : Nat → Nat → Int32} {t : Int32} : ∀ k, k ≤ 20 → V (edQ B t k) 27 = V B 27
  | 0, _ => rfl
  | k + 1, h => by rw [edQ, vw_472_27 (show k < 20 by omega) (by decide), if_neg (by decide), eq'_27 k (by omega)]
theorem eq'_26 {B : Nat → Nat → Int32} {t : Int32} : ∀ k, k ≤ 20 → V (edQ B t k) 26 = mapK (fun r => if V B 26 r = 0 ∧ V B 24 r ≤ t then 3 else V B 26 r) (V B 26) k
  | 0, _ => (mapK_0 _ _).symm
  | k + 1, h => by
    rw [edQ, vw_472_26 (show k < 20 by omega) (by decide), if_pos rfl, eq'_24 k (by omega), eq'_26 k (by omega), mapK_at]
    exact mapK_put rfl
theorem em_3 {B : Nat → Nat → Int32} {nb nr : Nat} (hb : nb ≤ 60) (hr : nr ≤ 20) : V (edM B nb nr) 3 = V B 3 := by
  unfold edM
  rw [vw_0_3 (by decide), eq'_3 nr hr, eb_3 nb hb]
theorem em_4 {B : Nat → Nat → Int32} {nb nr : Nat} (hb : nb ≤ 60) (hr : nr ≤ 20) : V (edM B nb nr) 4 = V B 4 := by
  unfold edM
  rw [vw_0_4 (by decide), eq'_4 nr hr, eb_4 nb hb]
theorem em_5 {B : Nat → Nat → Int32} {nb nr : Nat} (hb : nb ≤ 60) (hr : nr ≤ 20) : V (edM B nb nr) 5 = V B 5 := by
  unfold edM
  rw [vw_0_5 (by decide), eq'_5 nr hr, eb_5 nb hb]
theorem em_7 {B : Nat → Nat → Int32} {nb nr : Nat} (hb : nb ≤ 60) (hr : nr ≤ 20) : V (edM B nb nr) 7 = V B 7 := by
  unfold edM
  rw [vw_0_7 (by decide), eq'_7 nr hr, eb_7 nb hb]
theorem em_8 {B : Nat → Nat → Int32} {nb nr : Nat} (hb : nb ≤ 60) (hr : nr ≤ 20) : V (edM B nb nr) 8 = V B 8 := by
  unfold edM
  rw [vw_0_8 (by decide), eq'_8 nr hr, eb_8 nb hb]
theorem em_10 {B : Nat → Nat → Int32} {nb nr : Nat} (hb : nb ≤ 60) (hr : nr ≤ 20) : V (edM B nb nr) 10 = V B 10 := by
  unfold edM
  rw [vw_0_10 (by decide), eq'_10 nr hr, eb_10 nb hb]
theorem em_11 {B : Nat → Nat → Int32} {nb nr : Nat} (hb : nb ≤ 60) (hr : nr ≤ 20) : V (edM B nb nr) 11 = V B 11 := by
  unfold edM
  rw [vw_0_11 (by decide), eq'_11 nr hr, eb_11 nb hb]
theorem em_12 {B : Nat → Nat → Int32} {nb nr : Nat} (hb : nb ≤ 60) (hr : nr ≤ 20) : V (edM B nb nr) 12 = V B 12 := by
  unfold edM
  rw [vw_0_12 (by decide), eq'_12 nr hr, eb_12 nb hb]
theorem em_13 {B : Nat → Nat → Int32} {nb nr : Nat} (hb : nb ≤ 60) (hr : nr ≤ 20) : V (edM B nb nr) 13 = V B 13 := by
  unfold edM
  rw [vw_0_13 (by decide), eq'_13 nr hr, eb_13 nb hb]
theorem em_14 {B : Nat → Nat → Int32} {nb nr : Nat} (hb : nb ≤ 60) (hr : nr ≤ 20) : V (edM B nb nr) 14 = V B 14 := by
  unfold edM
  rw [vw_0_14 (by decide), eq'_14 nr hr, eb_14 nb hb]
theorem em_16 {B : Nat → Nat → Int32} {nb nr : Nat} (hb : nb ≤ 60) (hr : nr ≤ 20) : V (edM B nb nr) 16 = V B 16 := by
  unfold edM
  rw [vw_0_16 (by decide), eq'_16 nr hr, eb_16 nb hb]
theorem em_17 {B : Nat → Nat → Int32} {nb nr : Nat} (hb : nb ≤ 60) (hr : nr ≤ 20) : V (edM B nb nr) 17 = V B 17 := by
  unfold edM
  rw [vw_0_17 (by decide), eq'_17 nr hr, eb_17 nb hb]
theorem em_18 {B : Nat → Nat → Int32} {nb nr : Nat} (hb : nb ≤ 60) (hr : nr ≤ 20) : V (edM B nb nr) 18 = V B 18 := by
  unfold edM
  rw [vw_0_18 (by decide), eq'_18 nr hr, eb_18 nb hb]
theorem em_19 {B : Nat → Nat → Int32} {nb nr : Nat} (hb : nb ≤ 60) (hr : nr ≤ 20) : V (edM B nb nr) 19 = V B 19 := by
  unfold edM
  rw [vw_0_19 (by decide), eq'_19 nr hr, eb_19 nb hb]
theorem em_20 {B : Nat → Nat → Int32} {nb nr : Nat} (hb : nb ≤ 60) (hr : nr ≤ 20) : V (edM B nb nr) 20 = mapK (fun b => enR (V B 17 b) (V B 18 b) (V B 20 b) (B 64 0)) (V B 20) nb := by
  unfold edM
  rw [vw_0_20 (by decide), eq'_20 nr hr, eb_20 nb hb]
theorem em_21 {B : Nat → Nat → Int32} {nb nr : Nat} (hb : nb ≤ 60) (hr : nr ≤ 20) : V (edM B nb nr) 21 = V B 21 := by
  unfold edM
  rw [vw_0_21 (by decide), eq'_21 nr hr, eb_21 nb hb]
theorem em_23 {B : Nat → Nat → Int32} {nb nr : Nat} (hb : nb ≤ 60) (hr : nr ≤ 20) : V (edM B nb nr) 23 = V B 23 := by
  unfold edM
  rw [vw_0_23 (by decide), eq'_23 nr hr, eb_23 nb hb]
theorem em_24 {B : Nat → Nat → Int32} {nb nr : Nat} (hb : nb ≤ 60) (hr : nr ≤ 20) : V (edM B nb nr) 24 = V B 24 := by
  unfold edM
  rw [vw_0_24 (by decide), eq'_24 nr hr, eb_24 nb hb]
theorem em_25 {B : Nat → Nat → Int32} {nb nr : Nat} (hb : nb ≤ 60) (hr : nr ≤ 20) : V (edM B nb nr) 25 = V B 25 := by
  unfold edM
  rw [vw_0_25 (by decide), eq'_25 nr hr, eb_25 nb hb]
theorem em_26 {B : Nat → Nat → Int32} {nb nr : Nat} (hb : nb ≤ 60) (hr : nr ≤ 20) : V (edM B nb nr) 26 = mapK (fun r => if V B 26 r = 0 ∧ V B 24 r ≤ B 64 0 then 3 else V B 26 r) (V B 26) nr := by
  unfold edM
  rw [vw_0_26 (by decide), eq'_26 nr hr, eb_24 nb hb, eb_26 nb hb]
theorem em_27 {B : Nat → Nat → Int32} {nb nr : Nat} (hb : nb ≤ 60) (hr : nr ≤ 20) : V (edM B nb nr) 27 = V B 27 := by
  unfold edM
  rw [vw_0_27 (by decide), eq'_27 nr hr, eb_27 nb hb]
theorem sm_day {A B : Nat → Nat → Int32} {nc ns nz nb nr t : Nat} (h : Same A B nc ns nz nb nr t) (hi : Inv A nc ns nb nr t) (ht : t < 999) : Same (enD A nb nr) (edM B nb nr) nc ns nz nb nr (t + 1) ∧ Inv (enD A nb nr) nc ns nb nr (t + 1) := by
  obtain ⟨⟨a1, a2, a3, a4, a5, a6, a7, a8, a9, a10, a11, a12⟩, ⟨b1, -, b3, -, b5, -, b7, -, b9, -, b11, -⟩, ⟨r3, r4, r5⟩, ⟨r7, r8⟩, ⟨r10, r11, r12, r13, r14⟩, ⟨r16, r17, r18, r19, r20, r21⟩, ⟨r23, r24, r25, r26, r27⟩⟩ := h
  have s20 : RWq (enD A nb nr) (edM B nb nr) nb 20 := by
    intro k hk
    rw [em_20 a8 a10]
    show mapK (enS (A 17) (A 18) (A 20) (A 1 5)) (A 20) nb k = _
    unfold mapK
    rw [if_pos hk, if_pos hk]
    unfold enS enR
    dsimp only
    rw [a11, b11, ← r17 k hk, ← r18 k hk, ← r20 k hk]
    obtain ⟨c, a, d, -, -, ea, ed, had, hd9, -, hst⟩ := hi.2.1 k hk
    refine ifc Iff.rfl rfl (fun _ => ifc ?_ rfl (fun _ => rfl))
    rw [ed, nI_1]
    constructor
    · intro q
      obtain ⟨-, g2, -⟩ := hst q.1
      have := (le_nI (by omega) (by omega)).mp q.2
      exact ⟨q.1, by rw [show d = t + 1 by omega]⟩
    · intro q
      exact ⟨q.1, by rw [q.2]; exact Int32.le_refl _⟩
  have s26 : RWq (enD A nb nr) (edM B nb nr) nr 26 := by
    intro k hk
    rw [em_26 a8 a10]
    show mapK (exS (A 24) (A 26) (A 1 5 + 1)) (A 26) nr k = _
    unfold mapK
    rw [if_pos hk, if_pos hk]
    unfold exS
    dsimp only
    rw [a11, b11, ← r24 k hk, ← r26 k hk, nI_1]
    obtain ⟨a, m, ha, -, -, ea, -⟩ := hi.2.2.2.2 k hk
    refine ifc ?_ rfl (fun _ => rfl)
    rw [ea, lt_nI (by omega) (by omega), le_nI (by omega) (by omega)]
    exact ⟨fun q => ⟨q.1, by omega⟩, fun q => ⟨q.1, by omega⟩⟩
  refine ⟨⟨⟨a1, a2, a3, a4, a5, a6, a7, a8, a9, a10, (show A 1 5 + 1 = nI (t + 1) by rw [a11]; exact nI_1 t), by omega⟩, ⟨(edM_c (by decide) (by decide)).trans b1, a2, (edM_c (by decide) (by decide)).trans b3, a4, (edM_c (by decide) (by decide)).trans b5, a6, (edM_c (by decide) (by decide)).trans b7, a8, (edM_c (by decide) (by decide)).trans b9, a10, ?_, by omega⟩, ⟨rw_kp r3 rfl (em_3 a8 a10), rw_kp r4 rfl (em_4 a8 a10), rw_kp r5 rfl (em_5 a8 a10)⟩, ⟨rw_kp r7 rfl (em_7 a8 a10), rw_kp r8 rfl (em_8 a8 a10)⟩, ⟨rw_kp r10 rfl (em_10 a8 a10), rw_kp r11 rfl (em_11 a8 a10), rw_kp r12 rfl (em_12 a8 a10), rw_kp r13 rfl (em_13 a8 a10), rw_kp r14 rfl (em_14 a8 a10)⟩, ⟨rw_kp r16 rfl (em_16 a8 a10), rw_kp r17 rfl (em_17 a8 a10), rw_kp r18 rfl (em_18 a8 a10), rw_kp r19 rfl (em_19 a8 a10), s20, rw_kp r21 rfl (em_21 a8 a10)⟩, ⟨rw_kp r23 rfl (em_23 a8 a10), rw_kp r24 rfl (em_24 a8 a10), rw_kp r25 rfl (em_25 a8 a10), s26, rw_kp r27 rfl (em_27 a8 a10)⟩⟩, ?_⟩
  · unfold edM
    rw [w64_s, edQ_c (by decide), edB_c (by decide), b11, nI_1]
  · obtain ⟨h1, h2, h3, h4, h5⟩ := hi
    have e20 : ∀ k, k < nb → enD A nb nr 20 k = enS (A 17) (A 18) (A 20) (nI t) k := fun k hk => by
      show mapK (enS (A 17) (A 18) (A 20) (A 1 5)) (A 20) nb k = _
      unfold mapK
      rw [if_pos hk, a11]
    have f0 : ∀ k, k < nb → enD A nb nr 20 k = 0 → A 20 k = 0 ∧ ¬ A 17 k ≤ nI t := by
      intro k hk q
      rw [e20 k hk] at q
      unfold enS at q
      split at q
      · exact absurd q (by decide)
      · rename_i g
        split at q
        · exact absurd q (by decide)
        · exact ⟨q, fun r => g ⟨q, r⟩⟩
    have f1 : ∀ k, k < nb → enD A nb nr 20 k = 1 → A 20 k = 1 ∧ ¬ A 18 k ≤ nI t + 1 := by
      intro k hk q
      rw [e20 k hk] at q
      unfold enS at q
      split at q
      · exact absurd q (by decide)
      · split at q
        · exact absurd q (by decide)
        · rename_i g; exact ⟨q, fun r => g ⟨q, r⟩⟩
    refine ⟨h1, fun k hk => ?_, fun i j hi2 hj q1 q2 q3 => h3 i j hi2 hj (f1 i hi2 q1).1 (f1 j hj q2).1 q3, fun c d hd hd9 => ?_, h5⟩
    · obtain ⟨c, a, d, e1, e2, e3, e4, e5, e6, e7, e8⟩ := h2 k hk
      refine ⟨c, a, d, e1, e2, e3, e4, e5, e6, fun q => ?_, fun q => ?_⟩
      · have := (f0 k hk q).2
        rw [e3, le_nI (by omega) (by omega)] at this
        omega
      · obtain ⟨g0, gd⟩ := f1 k hk q
        rw [e4, nI_1, le_nI (by omega) (by omega)] at gd
        obtain ⟨g1, g2, s, g3, g4, g5, g6⟩ := e8 g0
        exact ⟨by omega, by omega, s, g3, g4, g5, Int32.le_trans g6 ((le_nI (by omega) (by omega)).mpr (by omega))⟩
    · refine Nat.le_trans (cnt_mono (fun j hj q => ?_)) (h4 c d (by omega) hd9)
      have q := of_decide_eq_true (show decide (A 17 j ≤ nI d ∧ nI d < A 18 j ∧ A 16 j = c ∧ actP (enD A nb nr 20 j)) = true from q)
      unfold tkB
      exact decide_eq_true ⟨q.1, q.2.1, q.2.2.1, q.2.2.2.imp (fun r => (f0 j hj r).1) (fun r => (f1 j hj r).1)⟩
theorem sm_days {A B : Nat → Nat → Int32} {nc ns nz nb nr t : Nat} (h : Same A B nc ns nz nb nr t) (hi : Inv A nc ns nb nr t) : ∀ k, t + k ≤ 999 → Same (enDn A nb nr k) (edN B nb nr k) nc ns nz nb nr (t + k) ∧ Inv (enDn A nb nr k) nc ns nb nr (t + k)
  | 0, _ => ⟨h, hi⟩
  | k + 1, hk => by
    obtain ⟨g1, g2⟩ := sm_days h hi k (by omega)
    exact sm_day (t := t + k) g1 g2 (by omega)
theorem u_endDays {A B : Nat → Nat → Int32} {nc ns nz nb nr t : Nat} (h : Same A B nc ns nz nb nr t) (hi : Inv A nc ns nb nr t) (d : Int32) : cd_endDays A d = cr_endDays B d ∧ (cr_endDays B d = 0 → A 1 5 + d = B 64 0 + d ∧ St (enDn A (nbM A) (nrM A) d.toNatClampNeg) (edN B (nbR B) (nrR B) d.toNatClampNeg)) := by
  have ht := h.2.1.2.2.2.2.2.2.2.2.2.2
  refine ⟨ifc (k_rg 1 60 d) rfl (fun _ => ?_), fun z => ?_⟩
  · rw [s_t h]
    exact ifc Int32.not_le.symm rfl (fun _ => rfl)
  · obtain ⟨z1, z2⟩ := if0 (by decide) z
    have z3 := Classical.not_not.mp (if0 (by decide) z2).1
    obtain ⟨D, hD1, hD, hd⟩ := rng_of (show (1 : Int32) = nI 1 from rfl) (by decide) (show (60 : Int32) = nI 60 from rfl) (by decide) (Classical.not_not.mp z1)
    rw [ht.1, hd, nI_add] at z3
    have hle := le_of_le (rfl : nI (t + D) = nI (t + D)) (show (999 : Int32) = nI 999 from rfl) (by omega) (by decide) z3
    refine ⟨by rw [s_t h], nc, ns, nz, nb, nr, t + D, ?_⟩
    rw [(s_nb h).1, (s_nb h).2, (s_nr h).1, (s_nr h).2, cl_of hd (by omega)]
    exact sm_days h hi D hle