/-! ===== plain facts that the walks use ===== -/
theorem inc1 (k : Nat) : nI k + Int32.ofInt 1 = nI (k + 1) := by rw [nI_succ]; rfl
theorem cl_of {x : Int32} {k : Nat} (h : x = nI k) (hk : k < 2 ^ 31) : x.toNatClampNeg = k := by rw [h]; exact nI_clamp hk
theorem lt_of_nle {x y : Int32} {a b : Nat} (hx : x = nI a) (hy : y = nI b) (ha : a < 2 ^ 31) (hb : b < 2 ^ 31) (h : ¬ x ≤ y) : b < a := by
  subst hx; subst hy
  exact Nat.not_le.mp (fun q => h (nI_le q hb))
theorem le_of_le {x y : Int32} {a b : Nat} (hx : x = nI a) (hy : y = nI b) (ha : a < 2 ^ 31) (hb : b < 2 ^ 31) (h : x ≤ y) : a ≤ b := by
  subst hx; subst hy
  exact (nI_leI ha hb).mp h
theorem in_of {x : Int32} {k N : Nat} (hx : x = nI k) (h : k < N) (hN : N < 2 ^ 31) : vp_in x N := by subst hx; exact vp_in_nI h hN
/-- how many of the first n have p -/
def cnt (p : Nat → Bool) : Nat → Nat
  | 0 => 0
  | n + 1 => cnt p n + (if p n then 1 else 0)
theorem cnt_t {p : Nat → Bool} {k : Nat} (h : p k = true) : cnt p (k + 1) = cnt p k + 1 := by simp [cnt, h]
theorem cnt_f {p : Nat → Bool} {k : Nat} (h : p k = false) : cnt p (k + 1) = cnt p k := by simp [cnt, h]
theorem cnt_le (p : Nat → Bool) : ∀ n, cnt p n ≤ n
  | 0 => Nat.le_refl 0
  | n + 1 => by
    have := cnt_le p n
    unfold cnt
    split <;> omega
abbrev actP (s : Int32) : Prop := s = 0 ∨ s = 1
/-- an active booking b of the class c covers the night d -/
def tkB (cl ar de st : Nat → Int32) (c d : Int32) (b : Nat) : Bool := decide (ar b ≤ d ∧ d < de b ∧ cl b = c ∧ actP (st b))
theorem bI_z {b : Prop} [Decidable b] : bI b = 0 ↔ ¬ b := by unfold bI; split <;> simp_all
theorem bI_nz {b : Prop} [Decidable b] : ¬ bI b = 0 ↔ b := by unfold bI; split <;> simp_all
section Krows
variable {T : ATy} {Q : AQ} {CX : AC} {pc : Nat} {lo : List (Option Value)} {st : List Value} {h h' : Nat → AE} {n ce sl : Nat} {i len k : Nat} {f : Nat → Int32} {j x : Int32}
/-- an array's place by its number -/
theorem aw_ialdk (hd : decode T.2.1 pc = .ok (.iaload, 1)) (he : h i = .inl (0, len, .inl f)) (hi : i < n) (hj : j = nI k) (hk : k < len) (hl : Nat.ble len 2000000000 = true) (kk : AW T Q CX (pc + 1) lo (.int (f k) :: st) h n ce sl) : AW T Q CX pc lo (.int j :: .ref i :: st) h n ce sl := by
  have h2 : len < 2 ^ 31 := Nat.lt_of_le_of_lt (Nat.le_of_ble_eq_true hl) (by decide)
  refine aw_iald hd he hi (in_of hj hk h2) ?_
  rw [cl_of hj (Nat.lt_trans hk h2)]
  exact kk
theorem aw_baldk (hd : decode T.2.1 pc = .ok (.baload, 1)) (he : h i = .inl (1, len, .inl f)) (hi : i < n) (hj : j = nI k) (hk : k < len) (hl : Nat.ble len 2000000000 = true) (kk : AW T Q CX (pc + 1) lo (.int (f k) :: st) h n ce sl) : AW T Q CX pc lo (.int j :: .ref i :: st) h n ce sl := by
  have h2 : len < 2 ^ 31 := Nat.lt_of_le_of_lt (Nat.le_of_ble_eq_true hl) (by decide)
  refine aw_bald hd he hi (in_of hj hk h2) ?_
  rw [cl_of hj (Nat.lt_trans hk h2)]
  exact kk
theorem aw_iastk (hd : decode T.2.1 pc = .ok (.iastore, 1)) (he : h i = .inl (0, len, .inl f)) (hi : i < n) (hj : j = nI k) (hk : k < len) (hl : Nat.ble len 2000000000 = true) (hh : hset h i (.inl (0, len, .inl (upd f k x))) = h') (kk : AW T Q CX (pc + 1) lo st h' n ce sl) : AW T Q CX pc lo (.int x :: .int j :: .ref i :: st) h n ce sl := by
  have h2 : len < 2 ^ 31 := Nat.lt_of_le_of_lt (Nat.le_of_ble_eq_true hl) (by decide)
  refine aw_iast hd he hi (in_of hj hk h2) ?_ kk
  rw [cl_of hj (Nat.lt_trans hk h2)]
  exact hh
end Krows
/-- some of the first n has p -/
def anyB (p : Nat → Bool) : Nat → Bool
  | 0 => false
  | n + 1 => anyB p n || p n
theorem any_hit {p : Nat → Bool} {k : Nat} (h : p k = true) : ∀ {n : Nat}, k < n → anyB p n = true
  | 0, q => absurd q (Nat.not_lt_zero k)
  | n + 1, q => by
    unfold anyB
    rcases Nat.lt_or_ge k n with r | r
    · rw [any_hit h r]; rfl
    · have : k = n := by omega
      subst this
      rw [h]; simp
theorem any_no {p : Nat → Bool} {k : Nat} (h : anyB p k = false) (h2 : p k = false) : anyB p (k + 1) = false := by unfold anyB; rw [h, h2]; rfl
def sbB (st si : Nat → Int32) (x : Int32) (b : Nat) : Bool := decide (st b = 1 ∧ si b = x)
def opB (cl cu : Nat → Int32) (c d : Int32) (s : Nat) : Bool := decide (cl s = c ∧ cu s ≤ d)
/-- the latest season of the first n for a class and a day; -1 -/
def seasN (cl fi la : Nat → Int32) (c d : Int32) : Nat → Int32
  | 0 => -1
  | n + 1 => if cl n = c ∧ fi n ≤ d ∧ d ≤ la n then nI n else seasN cl fi la c d n
theorem seas_in (cl fi la : Nat → Int32) (c d : Int32) : ∀ n, seasN cl fi la c d n = -1 ∨ ∃ k, k < n ∧ seasN cl fi la c d n = nI k
  | 0 => Or.inl rfl
  | n + 1 => by
    unfold seasN
    split
    · exact Or.inr ⟨n, by omega, rfl⟩
    · rcases seas_in cl fi la c d n with h | ⟨k, h1, h2⟩
      · exact Or.inl h
      · exact Or.inr ⟨k, by omega, h2⟩
def sval (s : Int32) (f : Nat → Int32) (d : Int32) : Int32 := if s = -1 then d else f s.toNatClampNeg
def psum (pr : Int32 → Int32) (a : Nat) : Nat → Int32
  | 0 => 0
  | k + 1 => psum pr a k + pr (nI (a + k))
theorem nI_neg1 {k : Nat} (h : k < 2 ^ 31) : ¬ nI k = -1 := by
  intro q
  have := nI_toInt h
  rw [q] at this
  have h2 : (-1 : Int32).toInt = -1 := by decide
  omega
theorem dec_cases {s : Int32} {k : Nat} (hs : s = nI k - 1) (hk : k < 2 ^ 31) : (s < 0 ∧ k = 0) ∨ (¬ s < 0 ∧ ∃ j, k = j + 1 ∧ s = nI j) := by
  cases k with
  | zero =>
    refine Or.inl ⟨?_, rfl⟩
    rw [hs]; decide
  | succ j =>
    refine Or.inr ⟨?_, j, rfl, ?_⟩
    · rw [hs, nI_pred]; exact nI_pos (by omega)
    · rw [hs, nI_pred]
theorem dec1 (k : Nat) : nI (k + 1) + Int32.ofInt (-1) = nI k := pk_m1 k
theorem lg_le {x y : Int64} : lg_cmp x y ≤ 0 ↔ ¬ y < x := by
  unfold lg_cmp
  by_cases h : y < x
  · have h1 : x > y := h
    rw [if_pos h1]
    exact ⟨fun q => absurd q (by decide), fun q => absurd h q⟩
  · have h1 : ¬ x > y := h
    rw [if_neg h1]
    refine ⟨fun _ => h, fun _ => ?_⟩
    by_cases h2 : x = y
    · rw [if_pos h2]; decide
    · rw [if_neg h2]; decide
theorem sub1 (x : Int32) : x + Int32.ofInt (-1) = x - 1 := by rw [Int32.sub_eq_add_neg]; rfl
