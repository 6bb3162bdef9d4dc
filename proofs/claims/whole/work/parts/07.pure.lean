/-! ===== plain facts that the walks use ===== -/
theorem inc1 (k : Nat) : nI k + Int32.ofInt 1 = nI (k + 1) := by rw [nI_succ]; rfl
theorem cl_of {x : Int32} {k : Nat} (h : x = nI k) (hk : k < 2 ^ 31) : x.toNatClampNeg = k := by rw [h]; exact nI_clamp hk
theorem lt_of_nle {x y : Int32} {a b : Nat} (hx : x = nI a) (hy : y = nI b) (ha : a < 2 ^ 31) (hb : b < 2 ^ 31) (h : ¬ x ≤ y) : b < a := by
  subst hx; subst hy
  exact Nat.not_le.mp (fun q => h (nI_le q hb))
theorem le_of_le {x y : Int32} {a b : Nat} (hx : x = nI a) (hy : y = nI b) (ha : a < 2 ^ 31) (hb : b < 2 ^ 31) (h : x ≤ y) : a ≤ b := by
  subst hx; subst hy
  exact (nI_leI ha hb).mp h
theorem in_of {x : Int32} {k N : Nat} (hx : x = nI k) (h : k < N) (hN : N < 2 ^ 31) : vp_in x N := by subst hx; exact vp_in_nI h hN
/-- how many of the first n have p -/
def cnt (p : Nat → Bool) : Nat → Nat
  | 0 => 0
  | n + 1 => cnt p n + (if p n then 1 else 0)
theorem cnt_t {p : Nat → Bool} {k : Nat} (h : p k = true) : cnt p (k + 1) = cnt p k + 1 := by simp [cnt, h]
theorem cnt_f {p : Nat → Bool} {k : Nat} (h : p k = false) : cnt p (k + 1) = cnt p k := by simp [cnt, h]
theorem cnt_le (p : Nat → Bool) : ∀ n, cnt p n ≤ n
  | 0 => Nat.le_refl 0
  | n + 1 => by
    have := cnt_le p n
    unfold cnt
    split <;> omega
abbrev actP (s : Int32) : Prop := s = 0 ∨ s = 1
/-- an active booking b of the class c covers the night d -/
def tkB (cl ar de st : Nat → Int32) (c d : Int32) (b : Nat) : Bool := decide (ar b ≤ d ∧ d < de b ∧ cl b = c ∧ actP (st b))
theorem bI_z {b : Prop} [Decidable b] : bI b = 0 ↔ ¬ b := by unfold bI; split <;> simp_all
theorem bI_nz {b : Prop} [Decidable b] : ¬ bI b = 0 ↔ b := by unfold bI; split <;> simp_all
section Krows
variable {T : ATy} {Q : AQ} {CX : AC} {pc : Nat} {lo : List (Option Value)} {st : List Value} {h h' : Nat → AE} {n ce sl : Nat} {i len k : Nat} {f : Nat → Int32} {j x : Int32}
/-- an array's place by its number -/
theorem aw_ialdk (hd : decode T.2.1 pc = .ok (.iaload, 1)) (he : h i = .inl (0, len, .inl f)) (hi : i < n) (hj : j = nI k) (hk : k < len) (hl : Nat.ble len 2000000000 = true) (kk : AW T Q CX (pc + 1) lo (.int (f k) :: st) h n ce sl) : AW T Q CX pc lo (.int j :: .ref i :: st) h n ce sl := by
  have h2 : len < 2 ^ 31 := Nat.lt_of_le_of_lt (Nat.le_of_ble_eq_true hl) (by decide)
  refine aw_iald hd he hi (in_of hj hk h2) ?_
  rw [cl_of hj (Nat.lt_trans hk h2)]
  exact kk
theorem aw_baldk (hd : decode T.2.1 pc = .ok (.baload, 1)) (he : h i = .inl (1, len, .inl f)) (hi : i < n) (hj : j = nI k) (hk : k < len) (hl : Nat.ble len 2000000000 = true) (kk : AW T Q CX (pc + 1) lo (.int (f k) :: st) h n ce sl) : AW T Q CX pc lo (.int j :: .ref i :: st) h n ce sl := by
  have h2 : len < 2 ^ 31 := Nat.lt_of_le_of_lt (Nat.le_of_ble_eq_true hl) (by decide)
  refine aw_bald hd he hi (in_of hj hk h2) ?_
  rw [cl_of hj (Nat.lt_trans hk h2)]
  exact kk
theorem aw_iastk (hd : decode T.2.1 pc = .ok (.iastore, 1)) (he : h i = .inl (0, len, .inl f)) (hi : i < n) (hj : j = nI k) (hk : k < len) (hl : Nat.ble len 2000000000 = true) (hh : hset h i (.inl (0, len, .inl (upd f k x))) = h') (kk : AW T Q CX (pc + 1) lo st h' n ce sl) : AW T Q CX pc lo (.int x :: .int j :: .ref i :: st) h n ce sl := by
  have h2 : len < 2 ^ 31 := Nat.lt_of_le_of_lt (Nat.le_of_ble_eq_true hl) (by decide)
  refine aw_iast hd he hi (in_of hj hk h2) ?_ kk
  rw [cl_of hj (Nat.lt_trans hk h2)]
  exact hh
end Krows
/-- some of the first n has p -/
def anyB (p : Nat → Bool) : Nat → Bool
  | 0 => false
  | n + 1 => anyB p n || p n
theorem any_hit {p : Nat → Bool} {k : Nat} (h : p k = true) : ∀ {n : Nat}, k < n → anyB p n = true
  | 0, q => absurd q (Nat.not_lt_zero k)
  | n + 1, q => by
    unfold anyB
    rcases Nat.lt_or_ge k n with r | r
    · rw [any_hit h r]; rfl
    · have : k = n := by omega
      subst this
      rw [h]; simp
theorem any_no {p : Nat → Bool} {k : Nat} (h : anyB p k = false) (h2 : p k = false) : anyB p (k + 1) = false := by unfold anyB; rw [h, h2]; rfl
def sbB (st si : Nat → Int32) (x : Int32) (b : Nat) : Bool := decide (st b = 1 ∧ si b = x)
def opB (cl cu : Nat → Int32) (c d : Int32) (s : Nat) : Bool := decide (cl s = c ∧ cu s ≤ d)
/-- the latest season of the first n for a class and a day; -1 -/
def seasN (cl fi la : Nat → Int32) (c d : Int32) : Nat → Int32
  | 0 => -1
  | n + 1 => if cl n = c ∧ fi n ≤ d ∧ d ≤ la n then nI n else seasN cl fi la c d n
theorem seas_in (cl fi la : Nat → Int32) (c d : Int32) : ∀ n, seasN cl fi la c d n = -1 ∨ ∃ k, k < n ∧ seasN cl fi la c d n = nI k
  | 0 => Or.inl rfl
  | n + 1 => by
    unfold seasN
    split
    · exact Or.inr ⟨n, by omega, rfl⟩
    · rcases seas_in cl fi la c d n with h | ⟨k, h1, h2⟩
      · exact Or.inl h
      · exact Or.inr ⟨k, by omega, h2⟩
def sval (s : Int32) (f : Nat → Int32) (d : Int32) : Int32 := if s = -1 then d else f s.toNatClampNeg
def psum (pr : Int32 → Int32) (a : Nat) : Nat → Int32
  | 0 => 0
  | k + 1 => psum pr a k + pr (nI (a + k))
theorem nI_neg1 {k : Nat} (h : k < 2 ^ 31) : ¬ nI k = -1 := by
  intro q
  have := nI_toInt h
  rw [q] at this
  have h2 : (-1 : Int32).toInt = -1 := by decide
  omega
theorem dec_cases {s : Int32} {k : Nat} (hs : s = nI k - 1) (hk : k < 2 ^ 31) : (s < 0 ∧ k = 0) ∨ (¬ s < 0 ∧ ∃ j, k = j + 1 ∧ s = nI j) := by
  cases k with
  | zero =>
    refine Or.inl ⟨?_, rfl⟩
    rw [hs]; decide
  | succ j =>
    refine Or.inr ⟨?_, j, rfl, ?_⟩
    · rw [hs, nI_pred]; exact nI_pos (by omega)
    · rw [hs, nI_pred]
theorem dec1 (k : Nat) : nI (k + 1) + Int32.ofInt (-1) = nI k := pk_m1 k
theorem lg_le {x y : Int64} : lg_cmp x y ≤ 0 ↔ ¬ y < x := by
  unfold lg_cmp
  by_cases h : y < x
  · have h1 : x > y := h
    rw [if_pos h1]
    exact ⟨fun q => absurd q (by decide), fun q => absurd h q⟩
  · have h1 : ¬ x > y := h
    rw [if_neg h1]
    refine ⟨fun _ => h, fun _ => ?_⟩
    by_cases h2 : x = y
    · rw [if_pos h2]; decide
    · rw [if_neg h2]; decide
theorem sub1 (x : Int32) : x + Int32.ofInt (-1) = x - 1 := by rw [Int32.sub_eq_add_neg]; rfl
/-- the first k by f, the rest by g -/
def mapK (f g : Nat → Int32) (k : Nat) : Nat → Int32 := fun b => if b < k then f b else g b
theorem mapK_0 (f g : Nat → Int32) : mapK f g 0 = g := by funext b; simp [mapK]
theorem mapK_at (f g : Nat → Int32) (k : Nat) : mapK f g k k = g k := by simp [mapK]
theorem mapK_put {f g : Nat → Int32} {k : Nat} {x : Int32} (h : x = f k) : upd (mapK f g k) k x = mapK f g (k + 1) := by
  funext b
  unfold upd mapK
  by_cases hb : b = k
  · subst hb; simp [h]
  · rw [if_neg hb]
    by_cases h2 : b < k
    · rw [if_pos h2, if_pos (by omega)]
    · rw [if_neg h2, if_neg (by omega)]
theorem mapK_no {f g : Nat → Int32} {k : Nat} (h : g k = f k) : mapK f g k = mapK f g (k + 1) := by
  funext b
  unfold mapK
  by_cases hb : b = k
  · subst hb; simp [h]
  · by_cases h2 : b < k
    · rw [if_pos h2, if_pos (by omega)]
    · rw [if_neg h2, if_neg (by omega)]
theorem updM_2 {M : Nat → Nat → Int32} {i : Nat} {r s : Nat → Int32} : updM (updM M i r) i s = updM M i s := by
  funext j; unfold updM; split <;> rfl
theorem updM_id {M : Nat → Nat → Int32} {i : Nat} : updM M i (M i) = M := by
  funext j; unfold updM; split
  · rename_i h; rw [h]
  · rfl
theorem mapW {G : AG} {M : Nat → Nat → Int32} {i k : Nat} {f g : Nat → Int32} {x : Int32} (h : x = f k) : wld G (updM (updM M i (mapK f g k)) i (upd (updM M i (mapK f g k) i) k x)) = wld G (updM M i (mapK f g (k + 1))) := by
  rw [updM_2, updM_s, mapK_put h]
theorem mapN {G : AG} {M : Nat → Nat → Int32} {i k : Nat} {f g : Nat → Int32} (h : g k = f k) : wld G (updM M i (mapK f g k)) = wld G (updM M i (mapK f g (k + 1))) := by rw [mapK_no h]
theorem aw_heq {T : ATy} {Q : AQ} {CX : AC} {pc : Nat} {lo : List (Option Value)} {st : List Value} {h h' : Nat → AE} {n ce sl : Nat} (e : h = h') (k : AW T Q CX pc lo st h' n ce sl) : AW T Q CX pc lo st h n ce sl := e ▸ k
/-- the first of the first n with p; -1 -/
def fstN (p : Nat → Bool) : Nat → Int32
  | 0 => -1
  | n + 1 => if fstN p n = -1 then (if p n then nI n else -1) else fstN p n
theorem fst_no {p : Nat → Bool} {k : Nat} (h : fstN p k = -1) (h2 : p k = false) : fstN p (k + 1) = -1 := by unfold fstN; rw [if_pos h, h2]; rfl
theorem fst_keep {p : Nat → Bool} {k m : Nat} (hm : m < 2 ^ 31) (h : fstN p k = nI m) : ∀ n, k ≤ n → fstN p n = nI m
  | 0, q => by have : k = 0 := by omega
               subst this; exact h
  | n + 1, q => by
    rcases Nat.lt_or_ge n k with r | r
    · have : k = n + 1 := by omega
      subst this; exact h
    · have := fst_keep hm h n r
      unfold fstN
      rw [this, if_neg (nI_neg1 hm)]
theorem fst_hit {p : Nat → Bool} {k n : Nat} (h : fstN p k = -1) (h2 : p k = true) (hk : k < n) (hk2 : k < 2 ^ 31) : fstN p n = nI k :=
  fst_keep (k := k + 1) hk2 (by unfold fstN; rw [if_pos h, h2]; rfl) n hk
/-- p holds from a on, k times -/
def allN (p : Nat → Bool) (a : Nat) : Nat → Bool
  | 0 => true
  | k + 1 => allN p a k && p (a + k)
theorem all_bad {p : Nat → Bool} {a i : Nat} (h : p (a + i) = false) : ∀ {k : Nat}, i < k → allN p a k = false
  | 0, q => absurd q (Nat.not_lt_zero i)
  | k + 1, q => by
    unfold allN
    rcases Nat.lt_or_ge i k with r | r
    · rw [all_bad h r]; rfl
    · have : i = k := by omega
      subst this
      rw [h]; simp
theorem all_go {p : Nat → Bool} {a k : Nat} (h : allN p a k = true) (h2 : p (a + k) = true) : allN p a (k + 1) = true := by unfold allN; rw [h, h2]; rfl
/-- the state of a booking after the day d -/
def enS (ar de st : Nat → Int32) (d : Int32) (b : Nat) : Int32 := if st b = 0 ∧ ar b ≤ d then 4 else if st b = 1 ∧ de b ≤ d + 1 then 2 else st b
def exS (ar st : Nat → Int32) (d : Int32) (r : Nat) : Int32 := if st r = 0 ∧ ar r < d then 3 else st r
def capF (t op d : Int32) : Int32 := if d < t ∨ 998 < d then 0 else op
def limF (w s q d : Int32) : Int32 := if w < d then 0 else if d ≤ s then 16 else q
def relC (t w s q op d : Int32) : Int32 := if d < t ∨ 998 < d then 0 else if op < limF w s q (d - t) then op else limF w s q (d - t)
theorem lt_of_lt {x y : Int32} {a b : Nat} (hx : x = nI a) (hy : y = nI b) (ha : a < 2 ^ 31) (hb : b < 2 ^ 31) (h : x < y) : a < b := by
  subst hx; subst hy
  exact (nI_ltI ha hb).mp h
theorem le_of_nlt {x y : Int32} {a b : Nat} (hx : x = nI a) (hy : y = nI b) (ha : a < 2 ^ 31) (hb : b < 2 ^ 31) (h : ¬ x < y) : b ≤ a := by
  subst hx; subst hy
  exact Nat.not_lt.mp (fun q => h (nI_lt q hb))
def rcF (ahead cost : Int32) : Int32 := if ahead < 14 then (if ahead < 3 then 0 else cost / 2) else cost
/-- the stay leaves the window (in the class's own arithmetic) -/
abbrev lvC (t w a m : Int32) : Prop := a < t ∨ 998 < a ∨ 998 < a + m - 1 ∨ w < a + m - 1 - t
def obN (lv : Prop) [Decidable lv] (fr : Int32 → Bool) (a : Int32) (mm : Nat) : Int32 := if lv then 1 else if allN (fun i => fr (nI i)) a.toNatClampNeg mm = true then 0 else 2
def obS (o mn m : Int32) (f1 f2 : Bool) : Int32 := if ¬ o = 0 then o else if m < mn then (if f1 = false ∧ f2 = false then 0 else 3) else o
/-- the best of the first n: the first that is in order, and every later one that is better than the best so far; -1 -/
def bestN (ok : Nat → Bool) (bt : Nat → Nat → Bool) : Nat → Int32
  | 0 => -1
  | n + 1 => if ok n = true ∧ (bestN ok bt n = -1 ∨ bt n (bestN ok bt n).toNatClampNeg = true) then nI n else bestN ok bt n
theorem best_in (ok : Nat → Bool) (bt : Nat → Nat → Bool) : ∀ n, bestN ok bt n = -1 ∨ ∃ k, k < n ∧ bestN ok bt n = nI k ∧ ok k = true
  | 0 => Or.inl rfl
  | n + 1 => by
    unfold bestN
    split
    · rename_i h; exact Or.inr ⟨n, by omega, rfl, h.1⟩
    · rcases best_in ok bt n with h | ⟨k, h1, h2, h3⟩
      · exact Or.inl h
      · exact Or.inr ⟨k, by omega, h2, h3⟩
theorem best_t {ok : Nat → Bool} {bt : Nat → Nat → Bool} {k : Nat} (h : ok k = true) (h2 : bestN ok bt k = -1 ∨ bt k (bestN ok bt k).toNatClampNeg = true) : bestN ok bt (k + 1) = nI k := by
  rw [bestN, if_pos ⟨h, h2⟩]
theorem best_n {ok : Nat → Bool} {bt : Nat → Nat → Bool} {k : Nat} (h : ok k = false) : bestN ok bt (k + 1) = bestN ok bt k := by
  rw [bestN, if_neg (by rw [h]; simp)]
theorem best_w {ok : Nat → Bool} {bt : Nat → Nat → Bool} {k b : Nat} (hb : bestN ok bt k = nI b) (h2 : b < 2 ^ 31) (h : bt k b = false) : bestN ok bt (k + 1) = bestN ok bt k := by
  rw [bestN, if_neg]
  rintro ⟨-, q | q⟩
  · rw [hb] at q; exact nI_neg1 h2 q
  · rw [hb, nI_clamp h2, h] at q; exact absurd q (by decide)
theorem best_b {ok : Nat → Bool} {bt : Nat → Nat → Bool} {k b : Nat} (h : ok k = true) (hb : bestN ok bt k = nI b) (h2 : b < 2 ^ 31) (h3 : bt k b = true) : bestN ok bt (k + 1) = nI k := by
  refine best_t h (Or.inr ?_)
  rw [hb, nI_clamp h2]; exact h3
/-- which bookings have no place yet -/
def nxB (cl st pl : Nat → Int32) (c : Int32) (b : Nat) : Bool := decide (st b = 0 ∧ cl b = c ∧ pl b = -1)
/-- which sites a stay that arrives on a may have -/
def chB (cl cu bu : Nat → Int32) (c a : Int32) (s : Nat) : Bool := decide (cl s = c ∧ cu s ≤ a ∧ bu s ≤ a)
/-- the plan's rows behind the first k bookings: those who stay -/
def psS (cl de st si : Nat → Int32) (c : Int32) (S : (Nat → Int32) × (Nat → Int32)) : Nat → (Nat → Int32) × (Nat → Int32)
  | 0 => S
  | k + 1 => if st k = 1 ∧ cl k = c ∧ 0 ≤ si k ∧ si k < 16 then (upd (psS cl de st si c S k).1 k (si k), upd (psS cl de st si c S k).2 (si k).toNatClampNeg (de k)) else psS cl de st si c S k
theorem ps_t {cl de st si : Nat → Int32} {c : Int32} {S : (Nat → Int32) × (Nat → Int32)} {k : Nat} (h : st k = 1 ∧ cl k = c ∧ 0 ≤ si k ∧ si k < 16) : psS cl de st si c S (k + 1) = (upd (psS cl de st si c S k).1 k (si k), upd (psS cl de st si c S k).2 (si k).toNatClampNeg (de k)) := by rw [psS, if_pos h]
theorem ps_f {cl de st si : Nat → Int32} {c : Int32} {S : (Nat → Int32) × (Nat → Int32)} {k : Nat} (h : ¬ (st k = 1 ∧ cl k = c ∧ 0 ≤ si k ∧ si k < 16)) : psS cl de st si c S (k + 1) = psS cl de st si c S k := by rw [psS, if_neg h]
abbrev PlS : Type := (Nat → Int32) × (Nat → Int32) × Int32 × Int32
/-- one more stay in a plan; none: there is no stay left, or no site for it -/
def plStep (nb ns : Nat) (cl ar de st scl scu : Nat → Int32) (mn : Int32 → Int32) (c pol : Int32) (S : PlS) : Option PlS :=
  if bestN (nxB cl st S.1 c) (fun k b => decide (ar k < ar b)) nb = -1 then none else
  if bestN (chB scl scu S.2.1 c (ar (bestN (nxB cl st S.1 c) (fun k b => decide (ar k < ar b)) nb).toNatClampNeg)) (fun k b => decide (pol = 1 ∧ S.2.1 b < S.2.1 k)) ns = -1 then none else
  let nx := (bestN (nxB cl st S.1 c) (fun k b => decide (ar k < ar b)) nb).toNatClampNeg
  let ch := bestN (chB scl scu S.2.1 c (ar nx)) (fun k b => decide (pol = 1 ∧ S.2.1 b < S.2.1 k)) ns
  let x := S.2.1 ch.toNatClampNeg
  some (upd S.1 nx ch, upd S.2.1 ch.toNatClampNeg (de nx), (if x = -1 then S.2.2.1 else S.2.2.1 + (ar nx - x)), (if x = -1 then S.2.2.2 else if ar nx - x < mn x then S.2.2.2 + (ar nx - x) else S.2.2.2))
def plRun (step : PlS → Option PlS) : Nat → PlS → PlS
  | 0, S => S
  | f + 1, S => match step S with
    | none => S
    | some S' => plRun step f S'
theorem plRun_n {step : PlS → Option PlS} {S : PlS} (h : step S = none) : ∀ f, plRun step f S = S
  | 0 => rfl
  | f + 1 => by rw [plRun, h]
theorem plRun_s {step : PlS → Option PlS} {S S' : PlS} {f : Nat} (h : step S = some S') : plRun step (f + 1) S = plRun step f S' := by rw [plRun, h]
def loLe : List (Option Value) → List (Option Value) → Prop
  | [], [] => True
  | none :: a, _ :: b => loLe a b
  | some v :: a, o :: b => o = some v ∧ loLe a b
  | _, _ => False
theorem loLe_get : ∀ {a b : List (Option Value)}, loLe a b → ∀ (i : Nat) (v : Value), a[i]? = some (some v) → b[i]? = some (some v)
  | [], [], _, i, v, h => by simp at h
  | [], _ :: _, q, _, _, _ => q.elim
  | some _ :: _, [], q, _, _, _ => q.elim
  | none :: _, [], q, _, _, _ => q.elim
  | none :: a, o :: b, q, i, v, h => by
    cases i with
    | zero => simp at h
    | succ i => simpa using loLe_get (a := a) (b := b) q i v (by simpa using h)
  | some w :: a, o :: b, q, i, v, h => by
    cases i with
    | zero => simp at h; subst h; simp [q.1]
    | succ i => simpa using loLe_get (a := a) (b := b) q.2 i v (by simpa using h)
theorem aw_lo2 {T : ATy} {Q : AQ} {CX : AC} {pc : Nat} {lo lo' : List (Option Value)} {st : List Value} {h : Nat → AE} {n ce sl : Nat} (e : loLe lo' lo) (k : AW T Q CX pc lo' st h n ce sl) : AW T Q CX pc lo st h n ce sl := aw_lo (loLe_get e) k
theorem lti {i N n : Nat} (h : Nat.ble (i + 1) N = true) (hn : N ≤ n) : i < n := Nat.lt_of_lt_of_le (Nat.le_of_ble_eq_true h) hn
