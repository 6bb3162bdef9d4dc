/-- a reader's state: kind, start, end, value, code, position -/
abbrev RT : Type := Int32 × Nat × Nat × Int32 × Int32 × Int32
def r62 (l k s e v c p : Int32) : Nat → Int32 := fun i => if i = 2 then l else if i = 3 then k else if i = 4 then s else if i = 5 then e else if i = 6 then v else if i = 7 then c else if i = 8 then p else 0
def rsM (M : Nat → Nat → Int32) (l k s e v c p : Int32) : Nat → Nat → Int32 := fun i => if i = 62 then r62 l k s e v c p else M i
def rd (M : Nat → Nat → Int32) (L : Nat) (t : RT) : Nat → Nat → Int32 := rsM M (nI L) t.1 (nI t.2.1) (nI t.2.2.1) t.2.2.2.1 t.2.2.2.2.1 t.2.2.2.2.2
theorem er_0 {G : AG} {M : Nat → Nat → Int32} {l k s e v c p : Int32} : wld G (rsM M l k s e v c p) 0 = .inr (9, [.ref 1, .ref 28, .ref 55, .ref 56, .ref 58, .ref 61, .ref 62, .int (M 0 7)]) := rfl
theorem er_1 {G : AG} {M : Nat → Nat → Int32} {l k s e v c p : Int32} : wld G (rsM M l k s e v c p) 1 = .inr (1, [.ref 2, .ref 6, .ref 9, .ref 15, .ref 22, .int (M 1 5)]) := rfl
theorem er_2 {G : AG} {M : Nat → Nat → Int32} {l k s e v c p : Int32} : wld G (rsM M l k s e v c p) 2 = .inr (2, [.ref 3, .ref 4, .ref 5, .int (M 2 3)]) := rfl
theorem er_3 {G : AG} {M : Nat → Nat → Int32} {l k s e v c p : Int32} : wld G (rsM M l k s e v c p) 3 = .inl (0, 4, .inl (M 3)) := rfl
theorem er_4 {G : AG} {M : Nat → Nat → Int32} {l k s e v c p : Int32} : wld G (rsM M l k s e v c p) 4 = .inl (0, 4, .inl (M 4)) := rfl
theorem er_5 {G : AG} {M : Nat → Nat → Int32} {l k s e v c p : Int32} : wld G (rsM M l k s e v c p) 5 = .inl (0, 4, .inl (M 5)) := rfl
theorem er_6 {G : AG} {M : Nat → Nat → Int32} {l k s e v c p : Int32} : wld G (rsM M l k s e v c p) 6 = .inr (7, [.ref 7, .ref 8, .int (M 6 2)]) := rfl
theorem er_7 {G : AG} {M : Nat → Nat → Int32} {l k s e v c p : Int32} : wld G (rsM M l k s e v c p) 7 = .inl (0, 16, .inl (M 7)) := rfl
theorem er_8 {G : AG} {M : Nat → Nat → Int32} {l k s e v c p : Int32} : wld G (rsM M l k s e v c p) 8 = .inl (0, 16, .inl (M 8)) := rfl
theorem er_9 {G : AG} {M : Nat → Nat → Int32} {l k s e v c p : Int32} : wld G (rsM M l k s e v c p) 9 = .inr (5, [.ref 10, .ref 11, .ref 12, .ref 13, .ref 14, .int (M 9 5)]) := rfl
theorem er_10 {G : AG} {M : Nat → Nat → Int32} {l k s e v c p : Int32} : wld G (rsM M l k s e v c p) 10 = .inl (0, 12, .inl (M 10)) := rfl
theorem er_11 {G : AG} {M : Nat → Nat → Int32} {l k s e v c p : Int32} : wld G (rsM M l k s e v c p) 11 = .inl (0, 12, .inl (M 11)) := rfl
theorem er_12 {G : AG} {M : Nat → Nat → Int32} {l k s e v c p : Int32} : wld G (rsM M l k s e v c p) 12 = .inl (0, 12, .inl (M 12)) := rfl
theorem er_13 {G : AG} {M : Nat → Nat → Int32} {l k s e v c p : Int32} : wld G (rsM M l k s e v c p) 13 = .inl (0, 12, .inl (M 13)) := rfl
theorem er_14 {G : AG} {M : Nat → Nat → Int32} {l k s e v c p : Int32} : wld G (rsM M l k s e v c p) 14 = .inl (0, 12, .inl (M 14)) := rfl
theorem er_15 {G : AG} {M : Nat → Nat → Int32} {l k s e v c p : Int32} : wld G (rsM M l k s e v c p) 15 = .inr (0, [.ref 16, .ref 17, .ref 18, .ref 19, .ref 20, .ref 21, .int (M 15 6)]) := rfl
theorem er_16 {G : AG} {M : Nat → Nat → Int32} {l k s e v c p : Int32} : wld G (rsM M l k s e v c p) 16 = .inl (0, 60, .inl (M 16)) := rfl
theorem er_17 {G : AG} {M : Nat → Nat → Int32} {l k s e v c p : Int32} : wld G (rsM M l k s e v c p) 17 = .inl (0, 60, .inl (M 17)) := rfl
theorem er_18 {G : AG} {M : Nat → Nat → Int32} {l k s e v c p : Int32} : wld G (rsM M l k s e v c p) 18 = .inl (0, 60, .inl (M 18)) := rfl
theorem er_19 {G : AG} {M : Nat → Nat → Int32} {l k s e v c p : Int32} : wld G (rsM M l k s e v c p) 19 = .inl (0, 60, .inl (M 19)) := rfl
theorem er_20 {G : AG} {M : Nat → Nat → Int32} {l k s e v c p : Int32} : wld G (rsM M l k s e v c p) 20 = .inl (0, 60, .inl (M 20)) := rfl
theorem er_21 {G : AG} {M : Nat → Nat → Int32} {l k s e v c p : Int32} : wld G (rsM M l k s e v c p) 21 = .inl (0, 60, .inl (M 21)) := rfl
theorem er_22 {G : AG} {M : Nat → Nat → Int32} {l k s e v c p : Int32} : wld G (rsM M l k s e v c p) 22 = .inr (4, [.ref 23, .ref 24, .ref 25, .ref 26, .ref 27, .int (M 22 5)]) := rfl
theorem er_23 {G : AG} {M : Nat → Nat → Int32} {l k s e v c p : Int32} : wld G (rsM M l k s e v c p) 23 = .inl (0, 20, .inl (M 23)) := rfl
theorem er_24 {G : AG} {M : Nat → Nat → Int32} {l k s e v c p : Int32} : wld G (rsM M l k s e v c p) 24 = .inl (0, 20, .inl (M 24)) := rfl
theorem er_25 {G : AG} {M : Nat → Nat → Int32} {l k s e v c p : Int32} : wld G (rsM M l k s e v c p) 25 = .inl (0, 20, .inl (M 25)) := rfl
theorem er_26 {G : AG} {M : Nat → Nat → Int32} {l k s e v c p : Int32} : wld G (rsM M l k s e v c p) 26 = .inl (0, 20, .inl (M 26)) := rfl
theorem er_27 {G : AG} {M : Nat → Nat → Int32} {l k s e v c p : Int32} : wld G (rsM M l k s e v c p) 27 = .inl (0, 20, .inl (M 27)) := rfl
theorem er_28 {G : AG} {M : Nat → Nat → Int32} {l k s e v c p : Int32} : wld G (rsM M l k s e v c p) 28 = .inr (1, [.ref 29, .ref 33, .ref 36, .ref 42, .ref 49, .int (M 28 5)]) := rfl
theorem er_29 {G : AG} {M : Nat → Nat → Int32} {l k s e v c p : Int32} : wld G (rsM M l k s e v c p) 29 = .inr (2, [.ref 30, .ref 31, .ref 32, .int (M 29 3)]) := rfl
theorem er_30 {G : AG} {M : Nat → Nat → Int32} {l k s e v c p : Int32} : wld G (rsM M l k s e v c p) 30 = .inl (0, 4, .inl (M 30)) := rfl
theorem er_31 {G : AG} {M : Nat → Nat → Int32} {l k s e v c p : Int32} : wld G (rsM M l k s e v c p) 31 = .inl (0, 4, .inl (M 31)) := rfl
theorem er_32 {G : AG} {M : Nat → Nat → Int32} {l k s e v c p : Int32} : wld G (rsM M l k s e v c p) 32 = .inl (0, 4, .inl (M 32)) := rfl
theorem er_33 {G : AG} {M : Nat → Nat → Int32} {l k s e v c p : Int32} : wld G (rsM M l k s e v c p) 33 = .inr (7, [.ref 34, .ref 35, .int (M 33 2)]) := rfl
theorem er_34 {G : AG} {M : Nat → Nat → Int32} {l k s e v c p : Int32} : wld G (rsM M l k s e v c p) 34 = .inl (0, 16, .inl (M 34)) := rfl
theorem er_35 {G : AG} {M : Nat → Nat → Int32} {l k s e v c p : Int32} : wld G (rsM M l k s e v c p) 35 = .inl (0, 16, .inl (M 35)) := rfl
theorem er_36 {G : AG} {M : Nat → Nat → Int32} {l k s e v c p : Int32} : wld G (rsM M l k s e v c p) 36 = .inr (5, [.ref 37, .ref 38, .ref 39, .ref 40, .ref 41, .int (M 36 5)]) := rfl
theorem er_37 {G : AG} {M : Nat → Nat → Int32} {l k s e v c p : Int32} : wld G (rsM M l k s e v c p) 37 = .inl (0, 12, .inl (M 37)) := rfl
theorem er_38 {G : AG} {M : Nat → Nat → Int32} {l k s e v c p : Int32} : wld G (rsM M l k s e v c p) 38 = .inl (0, 12, .inl (M 38)) := rfl
theorem er_39 {G : AG} {M : Nat → Nat → Int32} {l k s e v c p : Int32} : wld G (rsM M l k s e v c p) 39 = .inl (0, 12, .inl (M 39)) := rfl
theorem er_40 {G : AG} {M : Nat → Nat → Int32} {l k s e v c p : Int32} : wld G (rsM M l k s e v c p) 40 = .inl (0, 12, .inl (M 40)) := rfl
theorem er_41 {G : AG} {M : Nat → Nat → Int32} {l k s e v c p : Int32} : wld G (rsM M l k s e v c p) 41 = .inl (0, 12, .inl (M 41)) := rfl
theorem er_42 {G : AG} {M : Nat → Nat → Int32} {l k s e v c p : Int32} : wld G (rsM M l k s e v c p) 42 = .inr (0, [.ref 43, .ref 44, .ref 45, .ref 46, .ref 47, .ref 48, .int (M 42 6)]) := rfl
theorem er_43 {G : AG} {M : Nat → Nat → Int32} {l k s e v c p : Int32} : wld G (rsM M l k s e v c p) 43 = .inl (0, 60, .inl (M 43)) := rfl
theorem er_44 {G : AG} {M : Nat → Nat → Int32} {l k s e v c p : Int32} : wld G (rsM M l k s e v c p) 44 = .inl (0, 60, .inl (M 44)) := rfl
theorem er_45 {G : AG} {M : Nat → Nat → Int32} {l k s e v c p : Int32} : wld G (rsM M l k s e v c p) 45 = .inl (0, 60, .inl (M 45)) := rfl
theorem er_46 {G : AG} {M : Nat → Nat → Int32} {l k s e v c p : Int32} : wld G (rsM M l k s e v c p) 46 = .inl (0, 60, .inl (M 46)) := rfl
theorem er_47 {G : AG} {M : Nat → Nat → Int32} {l k s e v c p : Int32} : wld G (rsM M l k s e v c p) 47 = .inl (0, 60, .inl (M 47)) := rfl
theorem er_48 {G : AG} {M : Nat → Nat → Int32} {l k s e v c p : Int32} : wld G (rsM M l k s e v c p) 48 = .inl (0, 60, .inl (M 48)) := rfl
theorem er_49 {G : AG} {M : Nat → Nat → Int32} {l k s e v c p : Int32} : wld G (rsM M l k s e v c p) 49 = .inr (4, [.ref 50, .ref 51, .ref 52, .ref 53, .ref 54, .int (M 49 5)]) := rfl
theorem er_50 {G : AG} {M : Nat → Nat → Int32} {l k s e v c p : Int32} : wld G (rsM M l k s e v c p) 50 = .inl (0, 20, .inl (M 50)) := rfl
theorem er_51 {G : AG} {M : Nat → Nat → Int32} {l k s e v c p : Int32} : wld G (rsM M l k s e v c p) 51 = .inl (0, 20, .inl (M 51)) := rfl
theorem er_52 {G : AG} {M : Nat → Nat → Int32} {l k s e v c p : Int32} : wld G (rsM M l k s e v c p) 52 = .inl (0, 20, .inl (M 52)) := rfl
theorem er_53 {G : AG} {M : Nat → Nat → Int32} {l k s e v c p : Int32} : wld G (rsM M l k s e v c p) 53 = .inl (0, 20, .inl (M 53)) := rfl
theorem er_54 {G : AG} {M : Nat → Nat → Int32} {l k s e v c p : Int32} : wld G (rsM M l k s e v c p) 54 = .inl (0, 20, .inl (M 54)) := rfl
theorem er_55 {G : AG} {M : Nat → Nat → Int32} {l k s e v c p : Int32} : wld G (rsM M l k s e v c p) 55 = .inl (4, 2, .inr (.inr (.inr (.inr G.1)))) := rfl
theorem er_56 {G : AG} {M : Nat → Nat → Int32} {l k s e v c p : Int32} : wld G (rsM M l k s e v c p) 56 = .inr (8, [.ref 1, .ref 57, .int (M 56 2)]) := rfl
theorem er_57 {G : AG} {M : Nat → Nat → Int32} {l k s e v c p : Int32} : wld G (rsM M l k s e v c p) 57 = .inl (0, 999, .inl (M 57)) := rfl
theorem er_58 {G : AG} {M : Nat → Nat → Int32} {l k s e v c p : Int32} : wld G (rsM M l k s e v c p) 58 = .inr (3, [.ref 1, .ref 59, .ref 60, .int (M 58 3), .int (M 58 4)]) := rfl
theorem er_59 {G : AG} {M : Nat → Nat → Int32} {l k s e v c p : Int32} : wld G (rsM M l k s e v c p) 59 = .inl (0, 60, .inl (M 59)) := rfl
theorem er_60 {G : AG} {M : Nat → Nat → Int32} {l k s e v c p : Int32} : wld G (rsM M l k s e v c p) 60 = .inl (0, 16, .inl (M 60)) := rfl
theorem er_61 {G : AG} {M : Nat → Nat → Int32} {l k s e v c p : Int32} : wld G (rsM M l k s e v c p) 61 = .inl (1, 500, .inl (M 61)) := rfl
theorem er_62 {G : AG} {M : Nat → Nat → Int32} {l k s e v c p : Int32} : wld G (rsM M l k s e v c p) 62 = .inr (6, [.ref 61, .ref 28, .int l, .int k, .int s, .int e, .int v, .int c, .int p]) := rfl
theorem er_63 {G : AG} {M : Nat → Nat → Int32} {l k s e v c p : Int32} : wld G (rsM M l k s e v c p) 63 = .inr (10, [.ref 64, .ref 65, .ref 66, .ref 67, .int (M 63 4), .ref 68, .ref 69, .int (M 63 7), .int (M 63 8), .ref 70, .int (M 63 10), .int (M 63 11), .int (M 63 12), .int (M 63 13), .int (M 63 14), .int (M 63 15), .int (M 63 16), .int (M 63 17), .long G.2.1]) := rfl
theorem er_64 {G : AG} {M : Nat → Nat → Int32} {l k s e v c p : Int32} : wld G (rsM M l k s e v c p) 64 = .inl (0, 572, .inl (M 64)) := rfl
theorem er_65 {G : AG} {M : Nat → Nat → Int32} {l k s e v c p : Int32} : wld G (rsM M l k s e v c p) 65 = .inl (0, 572, .inl (M 65)) := rfl
theorem er_66 {G : AG} {M : Nat → Nat → Int32} {l k s e v c p : Int32} : wld G (rsM M l k s e v c p) 66 = .inl (0, 1144, .inl (M 66)) := rfl
theorem er_67 {G : AG} {M : Nat → Nat → Int32} {l k s e v c p : Int32} : wld G (rsM M l k s e v c p) 67 = .inl (3, 2, .inl (M 67)) := rfl
theorem er_68 {G : AG} {M : Nat → Nat → Int32} {l k s e v c p : Int32} : wld G (rsM M l k s e v c p) 68 = .inl (0, 60, .inl (M 68)) := rfl
theorem er_69 {G : AG} {M : Nat → Nat → Int32} {l k s e v c p : Int32} : wld G (rsM M l k s e v c p) 69 = .inl (0, 16, .inl (M 69)) := rfl
theorem er_70 {G : AG} {M : Nat → Nat → Int32} {l k s e v c p : Int32} : wld G (rsM M l k s e v c p) 70 = .inl (0, 500, .inl (M 70)) := rfl
theorem er_71 {G : AG} {M : Nat → Nat → Int32} {l k s e v c p : Int32} : wld G (rsM M l k s e v c p) 71 = .inl (2, 1, .inr (.inl (fun _ => G.2.2))) := rfl
theorem hr_2 {G : AG} {M : Nat → Nat → Int32} {l k s e v c p : Int32} {x : Int32} {fs : List Value} (h : fs = [.ref 61, .ref 28, .int l, .int k, .int s, .int e, .int v, .int c, .int p]) : hset (wld G (rsM M l k s e v c p)) 62 (.inr (6, fs.set 2 (.int x))) = wld G (rsM M x k s e v c p) := by
  subst h
  refine (hset_wld (i := 62) (r := r62 x k s e v c p) rfl).trans ?_; congr 1; funext i; unfold updM rsM; split <;> rfl
theorem hr_3 {G : AG} {M : Nat → Nat → Int32} {l k s e v c p : Int32} {x : Int32} {fs : List Value} (h : fs = [.ref 61, .ref 28, .int l, .int k, .int s, .int e, .int v, .int c, .int p]) : hset (wld G (rsM M l k s e v c p)) 62 (.inr (6, fs.set 3 (.int x))) = wld G (rsM M l x s e v c p) := by
  subst h
  refine (hset_wld (i := 62) (r := r62 l x s e v c p) rfl).trans ?_; congr 1; funext i; unfold updM rsM; split <;> rfl
theorem hr_4 {G : AG} {M : Nat → Nat → Int32} {l k s e v c p : Int32} {x : Int32} {fs : List Value} (h : fs = [.ref 61, .ref 28, .int l, .int k, .int s, .int e, .int v, .int c, .int p]) : hset (wld G (rsM M l k s e v c p)) 62 (.inr (6, fs.set 4 (.int x))) = wld G (rsM M l k x e v c p) := by
  subst h
  refine (hset_wld (i := 62) (r := r62 l k x e v c p) rfl).trans ?_; congr 1; funext i; unfold updM rsM; split <;> rfl
theorem hr_5 {G : AG} {M : Nat → Nat → Int32} {l k s e v c p : Int32} {x : Int32} {fs : List Value} (h : fs = [.ref 61, .ref 28, .int l, .int k, .int s, .int e, .int v, .int c, .int p]) : hset (wld G (rsM M l k s e v c p)) 62 (.inr (6, fs.set 5 (.int x))) = wld G (rsM M l k s x v c p) := by
  subst h
  refine (hset_wld (i := 62) (r := r62 l k s x v c p) rfl).trans ?_; congr 1; funext i; unfold updM rsM; split <;> rfl
theorem hr_6 {G : AG} {M : Nat → Nat → Int32} {l k s e v c p : Int32} {x : Int32} {fs : List Value} (h : fs = [.ref 61, .ref 28, .int l, .int k, .int s, .int e, .int v, .int c, .int p]) : hset (wld G (rsM M l k s e v c p)) 62 (.inr (6, fs.set 6 (.int x))) = wld G (rsM M l k s e x c p) := by
  subst h
  refine (hset_wld (i := 62) (r := r62 l k s e x c p) rfl).trans ?_; congr 1; funext i; unfold updM rsM; split <;> rfl
theorem hr_7 {G : AG} {M : Nat → Nat → Int32} {l k s e v c p : Int32} {x : Int32} {fs : List Value} (h : fs = [.ref 61, .ref 28, .int l, .int k, .int s, .int e, .int v, .int c, .int p]) : hset (wld G (rsM M l k s e v c p)) 62 (.inr (6, fs.set 7 (.int x))) = wld G (rsM M l k s e v x p) := by
  subst h
  refine (hset_wld (i := 62) (r := r62 l k s e v x p) rfl).trans ?_; congr 1; funext i; unfold updM rsM; split <;> rfl
theorem hr_8 {G : AG} {M : Nat → Nat → Int32} {l k s e v c p : Int32} {x : Int32} {fs : List Value} (h : fs = [.ref 61, .ref 28, .int l, .int k, .int s, .int e, .int v, .int c, .int p]) : hset (wld G (rsM M l k s e v c p)) 62 (.inr (6, fs.set 8 (.int x))) = wld G (rsM M l k s e v c x) := by
  subst h
  refine (hset_wld (i := 62) (r := r62 l k s e v c x) rfl).trans ?_; congr 1; funext i; unfold updM rsM; split <;> rfl
theorem hrd {M : Nat → Nat → Int32} {l k s e v c p : Int32} {i : Nat} {r : Nat → Int32} (hi : i ≠ 62) : updM (rsM M l k s e v c p) i r = rsM (updM M i r) l k s e v c p := by
  funext j; unfold updM rsM
  by_cases h : j = i
  · rw [h]; simp [hi]
  · simp [h]
theorem rd_wld {G : AG} {M : Nat → Nat → Int32} : wld G M = wld G (rsM M (M 62 2) (M 62 3) (M 62 4) (M 62 5) (M 62 6) (M 62 7) (M 62 8)) := by
  funext i
  by_cases h : i = 62
  · subst h; rfl
  · simp [wld, rsM, h]
def runF (p : Nat → Bool) (L : Nat) : Nat → Nat → Nat
  | 0, s => s
  | f + 1, s => if s < L ∧ p s = true then runF p L f (s + 1) else s
def run (p : Nat → Bool) (L s : Nat) : Nat := runF p L (L - s) s
theorem run_t {p : Nat → Bool} {L s : Nat} (h : s < L) (hp : p s = true) : run p L s = run p L (s + 1) := by
  unfold run
  rw [show L - s = (L - (s + 1)) + 1 by omega, runF, if_pos ⟨h, hp⟩]
theorem run_f {p : Nat → Bool} {L s : Nat} (h : ¬ (s < L ∧ p s = true)) : run p L s = s := by
  unfold run
  cases L - s with
  | zero => rfl
  | succ f => rw [runF, if_neg h]
theorem runF_le {p : Nat → Bool} {L : Nat} : ∀ (f s : Nat), s ≤ L → s ≤ runF p L f s ∧ runF p L f s ≤ L
  | 0, s, h => ⟨Nat.le_refl _, h⟩
  | f + 1, s, h => by
    unfold runF
    split
    · have := runF_le (p := p) (L := L) f (s + 1) (by omega); omega
    · exact ⟨Nat.le_refl _, h⟩
theorem run_le {p : Nat → Bool} {L s : Nat} (h : s ≤ L) : s ≤ run p L s ∧ run p L s ≤ L := runF_le _ s h
/-- the value of a number's digits -/
def dgV (v x : Int32) : Int32 := if (100000 : Int32) < v * 10 + (x - 48) then 100000 else v * 10 + (x - 48)
def numF (x : Nat → Int32) (p : Nat → Bool) (L : Nat) : Nat → Nat → Int32 → Int32
  | 0, _, v => v
  | f + 1, s, v => if s < L ∧ p s = true then numF x p L f (s + 1) (dgV v (x s)) else v
def numR (x : Nat → Int32) (p : Nat → Bool) (L s : Nat) (v : Int32) : Int32 := numF x p L (L - s) s v
theorem num_t {x : Nat → Int32} {p : Nat → Bool} {L s : Nat} {v : Int32} (h : s < L) (hp : p s = true) : numR x p L s v = numR x p L (s + 1) (dgV v (x s)) := by
  unfold numR
  rw [show L - s = (L - (s + 1)) + 1 by omega, numF, if_pos ⟨h, hp⟩]
theorem num_f {x : Nat → Int32} {p : Nat → Bool} {L s : Nat} {v : Int32} (h : ¬ (s < L ∧ p s = true)) : numR x p L s v = v := by
  unfold numR
  cases L - s with
  | zero => rfl
  | succ f => rw [numF, if_neg h]
abbrev isLt (c : Int32) : Prop := 97 ≤ c ∧ c ≤ 122
abbrev isDg (c : Int32) : Prop := 48 ≤ c ∧ c ≤ 57
abbrev isBl (c : Int32) : Prop := c = 32 ∨ c = 10
def pL (x : Nat → Int32) (i : Nat) : Bool := decide (isLt (x i))
def pD (x : Nat → Int32) (i : Nat) : Bool := decide (isDg (x i))
def pB (x : Nat → Int32) (i : Nat) : Bool := decide (isBl (x i))
/-- the next word, number or sign from s0 on, which is no blank -/
def tokT (x : Nat → Int32) (L s : Nat) (t : RT) : RT :=
  if L ≤ s then (0, s, s, t.2.2.2) else if isLt (x s) then (1, s, run (pL x) L s, t.2.2.2) else if isDg (x s) then (2, s, run (pD x) L s, numR x (pD x) L s 0, t.2.2.2.2) else ((if x s = 59 then 3 else 4), s, s + 1, t.2.2.2)
def stepT (x : Nat → Int32) (L : Nat) (t : RT) : RT := tokT x L (run (pB x) L t.2.2.1) t
def failT (s : Nat) (c : Int32) (t : RT) : RT := (t.1, t.2.1, t.2.2.1, t.2.2.2.1, c, nI s)
def numT (x : Nat → Int32) (L : Nat) (lo hi : Int32) (t : RT) : Int32 × RT :=
  if ¬ t.1 = 2 then (-1, failT t.2.1 1 t) else if t.2.2.2.1 < lo ∨ hi < t.2.2.2.1 then (-1, failT t.2.1 2 t) else (t.2.2.2.1, stepT x L t)
set_option maxRecDepth 100000 in
set_option maxHeartbeats 4000000 in
theorem c_X6_isLetter {h : Nat → AE} {n : Nat} (c : Int32) : AMet tX6_isLetter yX6_isLetter [Cond.code yX6_isLetter cX6_isLetter 1 (some .boolean)] [.int c] h n (PD (.inl (some (.int (bI (isLt c))))) h n) := by
  refine am_of (lo := [_]) (by decide) rfl (fun q => by cases q) rfl rfl rfl ?_
  refine aw_iload_n dX6_isLetter_0 rfl ?_
  refine aw_bipush (v := 97) dX6_isLetter_1 (by decide) ?_
  refine aw_icmp_lt 16 dX6_isLetter_3 (by decide) (fun c3 => ?_) (fun c3 => ?_)
  · have n3 := Int32.not_le.mpr c3
    refine aw_iconst (v := 0) dX6_isLetter_16 (by decide) ?_
    refine aw_zret rfl dX6_isLetter_17 rfl (ble' rfl) (ble' rfl) ?_
    exact pd_i (by simp [bI, isLt, c3, n3])
  · have n3 := Int32.not_lt.mp c3
    refine aw_iload_n dX6_isLetter_6 rfl ?_
    refine aw_bipush (v := 122) dX6_isLetter_7 (by decide) ?_
    refine aw_icmp_gt 16 dX6_isLetter_9 (by decide) (fun c9 => ?_) (fun c9 => ?_)
    · have n9 := Int32.not_le.mpr c9
      refine aw_iconst (v := 0) dX6_isLetter_16 (by decide) ?_
      refine aw_zret rfl dX6_isLetter_17 rfl (ble' rfl) (ble' rfl) ?_
      exact pd_i (by simp [bI, isLt, c3, n3, c9, n9])
    · have n9 := Int32.not_lt.mp c9
      refine aw_iconst (v := 1) dX6_isLetter_12 (by decide) ?_
      refine aw_goto 17 dX6_isLetter_13 (by decide) ?_
      refine aw_zret rfl dX6_isLetter_17 rfl (ble' rfl) (ble' rfl) ?_
      exact pd_i (by simp [bI, isLt, c3, n3, c9, n9])

set_option maxRecDepth 100000 in
set_option maxHeartbeats 4000000 in
theorem c_X6_isDigit {h : Nat → AE} {n : Nat} (c : Int32) : AMet tX6_isDigit yX6_isDigit [Cond.code yX6_isDigit cX6_isDigit 1 (some .boolean)] [.int c] h n (PD (.inl (some (.int (bI (isDg c))))) h n) := by
  refine am_of (lo := [_]) (by decide) rfl (fun q => by cases q) rfl rfl rfl ?_
  refine aw_iload_n dX6_isDigit_0 rfl ?_
  refine aw_bipush (v := 48) dX6_isDigit_1 (by decide) ?_
  refine aw_icmp_lt 16 dX6_isDigit_3 (by decide) (fun c3 => ?_) (fun c3 => ?_)
  · have n3 := Int32.not_le.mpr c3
    refine aw_iconst (v := 0) dX6_isDigit_16 (by decide) ?_
    refine aw_zret rfl dX6_isDigit_17 rfl (ble' rfl) (ble' rfl) ?_
    exact pd_i (by simp [bI, isDg, c3, n3])
  · have n3 := Int32.not_lt.mp c3
    refine aw_iload_n dX6_isDigit_6 rfl ?_
    refine aw_bipush (v := 57) dX6_isDigit_7 (by decide) ?_
    refine aw_icmp_gt 16 dX6_isDigit_9 (by decide) (fun c9 => ?_) (fun c9 => ?_)
    · have n9 := Int32.not_le.mpr c9
      refine aw_iconst (v := 0) dX6_isDigit_16 (by decide) ?_
      refine aw_zret rfl dX6_isDigit_17 rfl (ble' rfl) (ble' rfl) ?_
      exact pd_i (by simp [bI, isDg, c3, n3, c9, n9])
    · have n9 := Int32.not_lt.mp c9
      refine aw_iconst (v := 1) dX6_isDigit_12 (by decide) ?_
      refine aw_goto 17 dX6_isDigit_13 (by decide) ?_
      refine aw_zret rfl dX6_isDigit_17 rfl (ble' rfl) (ble' rfl) ?_
      exact pd_i (by simp [bI, isDg, c3, n3, c9, n9])

set_option maxRecDepth 100000 in
set_option maxHeartbeats 4000000 in
theorem c_X6_failAt {G : AG} {M : Nat → Nat → Int32} {n : Nat} (hn : 72 ≤ n) {l k s e v c p : Int32} (a b : Int32) : AMet tX6_failAt yX6_failAt [Cond.code yX6_failAt cX6_failAt 3 (some .boolean)] [.ref 62, .int a, .int b] (wld G (rsM M l k s e v c p)) n (PD (.inl (some (.int 0))) (wld G (rsM M l k s e v b a)) n) := by
  refine am_of (lo := [_, _, _]) (by decide) rfl (fun q => by cases q) rfl rfl rfl ?_
  refine aw_aload_n dX6_failAt_0 rfl ?_
  refine aw_iload_n dX6_failAt_1 rfl ?_
  refine aw_put fp_X6_30_m dX6_failAt_2 er_62 (l_62 hn) (ble' rfl) (fun _ => ⟨rfl, rfl⟩) (hr_8 rfl) ?_
  refine aw_aload_n dX6_failAt_5 rfl ?_
  refine aw_iload_n dX6_failAt_6 rfl ?_
  refine aw_put fp_X6_27_m dX6_failAt_7 er_62 (l_62 hn) (ble' rfl) (fun _ => ⟨rfl, rfl⟩) (hr_7 rfl) ?_
  refine aw_iconst (v := 0) dX6_failAt_10 (by decide) ?_
  refine aw_zret rfl dX6_failAt_11 rfl (ble' rfl) (ble' rfl) ?_
  exact pd_i rfl

set_option maxRecDepth 100000 in
set_option maxHeartbeats 4000000 in
theorem c_X6_fail {G : AG} {M : Nat → Nat → Int32} {n : Nat} (hn : 72 ≤ n) {l k s e v c p : Int32} (b : Int32) : AMet tX6_fail yX6_fail [Cond.code yX6_fail cX6_fail 2 (some .boolean)] [.ref 62, .int b] (wld G (rsM M l k s e v c p)) n (PD (.inl (some (.int 0))) (wld G (rsM M l k s e v b s)) n) := by
  refine am_of (lo := [_, _]) (by decide) rfl (fun q => by cases q) rfl rfl rfl ?_
  refine aw_aload_n dX6_fail_0 rfl ?_
  refine aw_aload_n dX6_fail_1 rfl ?_
  refine aw_get fl_X6_18 dX6_fail_2 er_62 (l_62 hn) rfl ?_
  refine aw_iload_n dX6_fail_5 rfl ?_
  refine ap_callVi kv_X6_115 ko_X6_failAt (c_X6_failAt hn _ _) dX6_fail_6 er_62 (l_62 hn) rfl rfl rfl rfl (ble' rfl) (by decide) ?_
  refine aw_zret rfl dX6_fail_9 rfl (ble' rfl) (ble' rfl) ?_
  exact pd_i rfl

set_option maxRecDepth 100000 in
set_option maxHeartbeats 4000000 in
theorem lp_X6_sk {G : AG} {M : Nat → Nat → Int32} {n : Nat} (hn : 72 ≤ n) {L Z : Nat} (hL : L ≤ 500) {k e v c p : Int32} {Po : APost} (kk : AW tX6_step (AQm tX6_step Po) C0 60 [some (.ref 62)] [] (wld G (rsM M (nI L) k (nI Z) e v c p)) n 0 0) : ∀ (j : Nat) (i : Nat) (s : Int32), L - i < j → i ≤ L → s = nI i → Z = run (pB (M 61)) L i →  AW tX6_step (AQm tX6_step (Po)) C0 8 [some (.ref 62)] [] (wld G (rsM M (nI L) k s e v c p)) n 0 0 := by
  intro j
  induction j with
  | zero => intro i s h0 hle hi hr; omega
  | succ j ih =>
    intro i s h0 hle hi hr
    refine aw_aload_n dX6_step_8 rfl ?_
    refine aw_get fl_X6_18 dX6_step_9 er_62 (l_62 hn) rfl ?_
    refine aw_aload_n dX6_step_12 rfl ?_
    refine aw_get fl_X6_9 dX6_step_13 er_62 (l_62 hn) rfl ?_
    refine aw_icmp_ge 60 dX6_step_16 (by decide) (fun c16 => ?_) (fun c16 => ?_)
    · have n16 := Int32.not_lt.mpr c16
      have hge : ¬ i < L := Nat.not_lt.mpr (le_of_le rfl hi (by omega) (by omega) c16)
      have hz : Z = i := hr.trans (run_f (fun q => hge q.1))
      rw [hi, ← hz]
      exact kk
    · have n16 := Int32.not_le.mp c16
      have hlt : i < L := lt_of_nle rfl hi (by omega) (by omega) c16
      refine aw_aload_n dX6_step_19 rfl ?_
      refine aw_get fl_X6_33 dX6_step_20 er_62 (l_62 hn) rfl ?_
      refine aw_aload_n dX6_step_23 rfl ?_
      refine aw_get fl_X6_18 dX6_step_24 er_62 (l_62 hn) rfl ?_
      refine aw_baldk dX6_step_27 er_61 (l_61 hn) hi (by omega) rfl ?_
      refine aw_bipush (v := 32) dX6_step_28 (by decide) ?_
      refine aw_icmp_eq 47 dX6_step_30 (by decide) (fun c30 => ?_) (fun c30 => ?_)
      · refine aw_aload_n dX6_step_47 rfl ?_
        refine aw_dup dX6_step_48 rfl ?_
        refine aw_get fl_X6_18 dX6_step_49 er_62 (l_62 hn) rfl ?_
        refine aw_iconst (v := 1) dX6_step_52 (by decide) ?_
        refine aw_iadd dX6_step_53 ?_
        refine aw_put fp_X6_18_m dX6_step_54 er_62 (l_62 hn) (ble' rfl) (fun _ => ⟨rfl, rfl⟩) (hr_4 rfl) ?_
        refine aw_goto 8 dX6_step_57 (by decide) ?_
        exact ih (i + 1) _ (by omega) (by omega) (by rw [hi]; exact nI_1 i) (by rw [hr]; exact run_t hlt (by simp [pB, c30]))
      · refine aw_aload_n dX6_step_33 rfl ?_
        refine aw_get fl_X6_33 dX6_step_34 er_62 (l_62 hn) rfl ?_
        refine aw_aload_n dX6_step_37 rfl ?_
        refine aw_get fl_X6_18 dX6_step_38 er_62 (l_62 hn) rfl ?_
        refine aw_baldk dX6_step_41 er_61 (l_61 hn) hi (by omega) rfl ?_
        refine aw_bipush (v := 10) dX6_step_42 (by decide) ?_
        refine aw_icmp_ne 60 dX6_step_44 (by decide) (fun c44 => ?_) (fun c44 => ?_)
        · have hz : Z = i := hr.trans (run_f (fun q => absurd q.2 (by simp [pB, c30, c44])))
          rw [hi, ← hz]
          exact kk
        · refine aw_aload_n dX6_step_47 rfl ?_
          refine aw_dup dX6_step_48 rfl ?_
          refine aw_get fl_X6_18 dX6_step_49 er_62 (l_62 hn) rfl ?_
          refine aw_iconst (v := 1) dX6_step_52 (by decide) ?_
          refine aw_iadd dX6_step_53 ?_
          refine aw_put fp_X6_18_m dX6_step_54 er_62 (l_62 hn) (ble' rfl) (fun _ => ⟨rfl, rfl⟩) (hr_4 rfl) ?_
          refine aw_goto 8 dX6_step_57 (by decide) ?_
          exact ih (i + 1) _ (by omega) (by omega) (by rw [hi]; exact nI_1 i) (by rw [hr]; exact run_t hlt (by simp [pB, c30, c44]))

set_option maxRecDepth 100000 in
set_option maxHeartbeats 4000000 in
theorem lp_X6_le {G : AG} {M : Nat → Nat → Int32} {n : Nat} (hn : 72 ≤ n) {k : Int32} {L Z : Nat} (hL : L ≤ 500) {s v c p : Int32} {Po : APost} (kk : Po (.inl none) (wld G (rsM M (nI L) k s (nI Z) v c p)) n)  : ∀ (j : Nat) (i : Nat) (e : Int32), L - i < j → i ≤ L → e = nI i → Z = run (pL (M 61)) L i →  AW tX6_step (AQm tX6_step (Po)) C0 107 [some (.ref 62)] [] (wld G (rsM M (nI L) k s e v c p)) n 0 0 := by
  intro j
  induction j with
  | zero => intro i e h0 hle hi hr; omega
  | succ j ih =>
    intro i e h0 hle hi hr
    refine aw_aload_n dX6_step_107 rfl ?_
    refine aw_get fl_X6_21 dX6_step_108 er_62 (l_62 hn) rfl ?_
    refine aw_aload_n dX6_step_111 rfl ?_
    refine aw_get fl_X6_9 dX6_step_112 er_62 (l_62 hn) rfl ?_
    refine aw_icmp_ge 272 dX6_step_115 (by decide) (fun c115 => ?_) (fun c115 => ?_)
    · have n115 := Int32.not_lt.mpr c115
      refine aw_vret rfl dX6_step_272 (ble' rfl) (ble' rfl) ?_
      have hge : ¬ i < L := Nat.not_lt.mpr (le_of_le rfl hi (by omega) (by omega) c115)
      have hz : Z = i := hr.trans (run_f (fun q => hge q.1))
      rw [hi, ← hz]
      exact kk
    · have n115 := Int32.not_le.mp c115
      have hlt : i < L := lt_of_nle rfl hi (by omega) (by omega) c115
      refine aw_aload_n dX6_step_118 rfl ?_
      refine aw_get fl_X6_33 dX6_step_119 er_62 (l_62 hn) rfl ?_
      refine aw_aload_n dX6_step_122 rfl ?_
      refine aw_get fl_X6_21 dX6_step_123 er_62 (l_62 hn) rfl ?_
      refine aw_baldk dX6_step_126 er_61 (l_61 hn) hi (by omega) rfl ?_
      refine ap_callSi ks_X6_141 ko_X6_isLetter (c_X6_isLetter _) dX6_step_127 rfl rfl (ble' rfl) (by decide) ?_
      refine aw_if_eq 272 dX6_step_130 (by decide) (fun c130 => ?_) (fun c130 => ?_)
      · have n130 := bI_z.mp c130
        refine aw_vret rfl dX6_step_272 (ble' rfl) (ble' rfl) ?_
        have hz : Z = i := hr.trans (run_f (fun q => n130 (of_decide_eq_true q.2)))
        rw [hi, ← hz]
        exact kk
      · have n130 := bI_nz.mp c130
        refine aw_aload_n dX6_step_133 rfl ?_
        refine aw_dup dX6_step_134 rfl ?_
        refine aw_get fl_X6_21 dX6_step_135 er_62 (l_62 hn) rfl ?_
        refine aw_iconst (v := 1) dX6_step_138 (by decide) ?_
        refine aw_iadd dX6_step_139 ?_
        refine aw_put fp_X6_21_m dX6_step_140 er_62 (l_62 hn) (ble' rfl) (fun _ => ⟨rfl, rfl⟩) (hr_5 rfl) ?_
        refine aw_goto 107 dX6_step_143 (by decide) ?_
        exact ih (i + 1) _ (by omega) (by omega) (by rw [hi]; exact nI_1 i) (by rw [hr]; exact run_t hlt (by rw [pL]; exact decide_eq_true n130))

set_option maxRecDepth 100000 in
set_option maxHeartbeats 4000000 in
theorem lp_X6_di {G : AG} {M : Nat → Nat → Int32} {n : Nat} (hn : 72 ≤ n) {k : Int32} {L Z : Nat} (hL : L ≤ 500) {s V c p : Int32} {Po : APost} (kk : Po (.inl none) (wld G (rsM M (nI L) k s (nI Z) V c p)) n) : ∀ (j : Nat) (i : Nat) (e v : Int32), L - i < j → i ≤ L → e = nI i → Z = run (pD (M 61)) L i → V = numR (M 61) (pD (M 61)) L i v →  AW tX6_step (AQm tX6_step (Po)) C0 171 [some (.ref 62)] [] (wld G (rsM M (nI L) k s e v c p)) n 0 0 := by
  intro j
  induction j with
  | zero => intro i e v h0 hle hi hr hv; omega
  | succ j ih =>
    intro i e v h0 hle hi hr hv
    refine aw_aload_n dX6_step_171 rfl ?_
    refine aw_get fl_X6_21 dX6_step_172 er_62 (l_62 hn) rfl ?_
    refine aw_aload_n dX6_step_175 rfl ?_
    refine aw_get fl_X6_9 dX6_step_176 er_62 (l_62 hn) rfl ?_
    refine aw_icmp_ge 272 dX6_step_179 (by decide) (fun c179 => ?_) (fun c179 => ?_)
    · have n179 := Int32.not_lt.mpr c179
      refine aw_vret rfl dX6_step_272 (ble' rfl) (ble' rfl) ?_
      have hge : ¬ i < L := Nat.not_lt.mpr (le_of_le rfl hi (by omega) (by omega) c179)
      have hz : Z = i := hr.trans (run_f (fun q => hge q.1))
      have hw : V = v := hv.trans (num_f (fun q => hge q.1))
      rw [hi, ← hz, ← hw]
      exact kk
    · have n179 := Int32.not_le.mp c179
      have hlt : i < L := lt_of_nle rfl hi (by omega) (by omega) c179
      refine aw_aload_n dX6_step_182 rfl ?_
      refine aw_get fl_X6_33 dX6_step_183 er_62 (l_62 hn) rfl ?_
      refine aw_aload_n dX6_step_186 rfl ?_
      refine aw_get fl_X6_21 dX6_step_187 er_62 (l_62 hn) rfl ?_
      refine aw_baldk dX6_step_190 er_61 (l_61 hn) hi (by omega) rfl ?_
      refine ap_callSi ks_X6_145 ko_X6_isDigit (c_X6_isDigit _) dX6_step_191 rfl rfl (ble' rfl) (by decide) ?_
      refine aw_if_eq 272 dX6_step_194 (by decide) (fun c194 => ?_) (fun c194 => ?_)
      · have n194 := bI_z.mp c194
        refine aw_vret rfl dX6_step_272 (ble' rfl) (ble' rfl) ?_
        have hz : Z = i := hr.trans (run_f (fun q => n194 (of_decide_eq_true q.2)))
        have hw : V = v := hv.trans (num_f (fun q => n194 (of_decide_eq_true q.2)))
        rw [hi, ← hz, ← hw]
        exact kk
      · have n194 := bI_nz.mp c194
        refine aw_aload_n dX6_step_197 rfl ?_
        refine aw_aload_n dX6_step_198 rfl ?_
        refine aw_get fl_X6_24 dX6_step_199 er_62 (l_62 hn) rfl ?_
        refine aw_bipush (v := 10) dX6_step_202 (by decide) ?_
        refine aw_imul dX6_step_204 ?_
        refine aw_aload_n dX6_step_205 rfl ?_
        refine aw_get fl_X6_33 dX6_step_206 er_62 (l_62 hn) rfl ?_
        refine aw_aload_n dX6_step_209 rfl ?_
        refine aw_get fl_X6_21 dX6_step_210 er_62 (l_62 hn) rfl ?_
        refine aw_baldk dX6_step_213 er_61 (l_61 hn) hi (by omega) rfl ?_
        refine aw_bipush (v := 48) dX6_step_214 (by decide) ?_
        refine aw_isub dX6_step_216 ?_
        refine aw_iadd dX6_step_217 ?_
        refine aw_ldc (v := 100000) (gw_at 508 (by decide +kernel) rfl) dX6_step_218 ?_
        refine aw_mmin km_X6_41 dX6_step_220 ⟨by decide, ble' rfl, by decide, by decide⟩ ?_
        refine aw_put fp_X6_24_m dX6_step_223 er_62 (l_62 hn) (ble' rfl) (fun _ => ⟨rfl, rfl⟩) (hr_6 rfl) ?_
        refine aw_aload_n dX6_step_226 rfl ?_
        refine aw_dup dX6_step_227 rfl ?_
        refine aw_get fl_X6_21 dX6_step_228 er_62 (l_62 hn) rfl ?_
        refine aw_iconst (v := 1) dX6_step_231 (by decide) ?_
        refine aw_iadd dX6_step_232 ?_
        refine aw_put fp_X6_21_m dX6_step_233 er_62 (l_62 hn) (ble' rfl) (fun _ => ⟨rfl, rfl⟩) (hr_5 rfl) ?_
        refine aw_goto 171 dX6_step_236 (by decide) ?_
        exact ih (i + 1) _ _ (by omega) (by omega) (by rw [hi]; exact nI_1 i) (by rw [hr]; exact run_t hlt (by rw [pD]; exact decide_eq_true n194)) (by rw [hv]; exact num_t hlt (by rw [pD]; exact decide_eq_true n194))

set_option maxRecDepth 100000 in
set_option maxHeartbeats 4000000 in
theorem c_X6_step {G : AG} {M : Nat → Nat → Int32} {n : Nat} (hn : 72 ≤ n) {L : Nat} (hL : L ≤ 500) {t : RT} (hE : t.2.2.1 ≤ L) : AMet tX6_step yX6_step [Cond.code yX6_step cX6_step 1 none] [.ref 62] (wld G (rd M L t)) n (PD (.inl none) (wld G (rd M L (stepT (M 61) L t))) n) := by
  obtain ⟨k, s, e, v, c, p⟩ := t
  simp only at hE
  refine am_of (lo := [_]) (by decide) rfl (fun q => by cases q) rfl rfl rfl ?_
  refine aw_aload_n dX6_step_0 rfl ?_
  refine aw_aload_n dX6_step_1 rfl ?_
  refine aw_get fl_X6_21 dX6_step_2 er_62 (l_62 hn) rfl ?_
  refine aw_put fp_X6_18_m dX6_step_5 er_62 (l_62 hn) (ble' rfl) (fun _ => ⟨rfl, rfl⟩) (hr_4 rfl) ?_
  refine lp_X6_sk hn hL ?_ (L + 1) e _ (by omega) hE rfl rfl
  have hZ := (run_le (p := pB (M 61)) (show e ≤ L from hE)).2
  refine aw_aload_n dX6_step_60 rfl ?_
  refine aw_aload_n dX6_step_61 rfl ?_
  refine aw_get fl_X6_18 dX6_step_62 er_62 (l_62 hn) rfl ?_
  refine aw_put fp_X6_21_m dX6_step_65 er_62 (l_62 hn) (ble' rfl) (fun _ => ⟨rfl, rfl⟩) (hr_5 rfl) ?_
  refine aw_aload_n dX6_step_68 rfl ?_
  refine aw_get fl_X6_18 dX6_step_69 er_62 (l_62 hn) rfl ?_
  refine aw_aload_n dX6_step_72 rfl ?_
  refine aw_get fl_X6_9 dX6_step_73 er_62 (l_62 hn) rfl ?_
  refine aw_icmp_lt 87 dX6_step_76 (by decide) (fun c76 => ?_) (fun c76 => ?_)
  · have n76 := Int32.not_le.mpr c76
    have hZ5 : run (pB (M 61)) L e < 500 := by have := lt_of_lt rfl rfl (by omega) (by omega) c76; omega
    have hZL : ¬ L ≤ run (pB (M 61)) L e := by have := lt_of_lt rfl rfl (by omega) (by omega) c76; omega
    refine aw_aload_n dX6_step_87 rfl ?_
    refine aw_get fl_X6_33 dX6_step_88 er_62 (l_62 hn) rfl ?_
    refine aw_aload_n dX6_step_91 rfl ?_
    refine aw_get fl_X6_18 dX6_step_92 er_62 (l_62 hn) rfl ?_
    refine aw_baldk dX6_step_95 er_61 (l_61 hn) rfl hZ5 rfl ?_
    refine ap_callSi ks_X6_141 ko_X6_isLetter (c_X6_isLetter _) dX6_step_96 rfl rfl (ble' rfl) (by decide) ?_
    refine aw_if_eq 146 dX6_step_99 (by decide) (fun c99 => ?_) (fun c99 => ?_)
    · have n99 := bI_z.mp c99
      refine aw_aload_n dX6_step_146 rfl ?_
      refine aw_get fl_X6_33 dX6_step_147 er_62 (l_62 hn) rfl ?_
      refine aw_aload_n dX6_step_150 rfl ?_
      refine aw_get fl_X6_18 dX6_step_151 er_62 (l_62 hn) rfl ?_
      refine aw_baldk dX6_step_154 er_61 (l_61 hn) rfl hZ5 rfl ?_
      refine ap_callSi ks_X6_145 ko_X6_isDigit (c_X6_isDigit _) dX6_step_155 rfl rfl (ble' rfl) (by decide) ?_
      refine aw_if_eq 239 dX6_step_158 (by decide) (fun c158 => ?_) (fun c158 => ?_)
      · have n158 := bI_z.mp c158
        refine aw_aload_n dX6_step_239 rfl ?_
        refine aw_aload_n dX6_step_240 rfl ?_
        refine aw_get fl_X6_33 dX6_step_241 er_62 (l_62 hn) rfl ?_
        refine aw_aload_n dX6_step_244 rfl ?_
        refine aw_get fl_X6_18 dX6_step_245 er_62 (l_62 hn) rfl ?_
        refine aw_baldk dX6_step_248 er_61 (l_61 hn) rfl hZ5 rfl ?_
        refine aw_bipush (v := 59) dX6_step_249 (by decide) ?_
        refine aw_icmp_ne 258 dX6_step_251 (by decide) (fun c251 => ?_) (fun c251 => ?_)
        · refine aw_iconst (v := 4) dX6_step_258 (by decide) ?_
          refine aw_put fp_X6_15_m dX6_step_259 er_62 (l_62 hn) (ble' rfl) (fun _ => ⟨rfl, rfl⟩) (hr_3 rfl) ?_
          refine aw_aload_n dX6_step_262 rfl ?_
          refine aw_dup dX6_step_263 rfl ?_
          refine aw_get fl_X6_21 dX6_step_264 er_62 (l_62 hn) rfl ?_
          refine aw_iconst (v := 1) dX6_step_267 (by decide) ?_
          refine aw_iadd dX6_step_268 ?_
          refine aw_put fp_X6_21_m dX6_step_269 er_62 (l_62 hn) (ble' rfl) (fun _ => ⟨rfl, rfl⟩) (hr_5 rfl) ?_
          refine aw_vret rfl dX6_step_272 (ble' rfl) (ble' rfl) ?_
          exact pd_v (by simp only [rd, stepT, tokT]; rw [if_neg hZL, if_neg n99, if_neg n158, if_neg c251, nI_1])
        · refine aw_iconst (v := 3) dX6_step_254 (by decide) ?_
          refine aw_goto 259 dX6_step_255 (by decide) ?_
          refine aw_put fp_X6_15_m dX6_step_259 er_62 (l_62 hn) (ble' rfl) (fun _ => ⟨rfl, rfl⟩) (hr_3 rfl) ?_
          refine aw_aload_n dX6_step_262 rfl ?_
          refine aw_dup dX6_step_263 rfl ?_
          refine aw_get fl_X6_21 dX6_step_264 er_62 (l_62 hn) rfl ?_
          refine aw_iconst (v := 1) dX6_step_267 (by decide) ?_
          refine aw_iadd dX6_step_268 ?_
          refine aw_put fp_X6_21_m dX6_step_269 er_62 (l_62 hn) (ble' rfl) (fun _ => ⟨rfl, rfl⟩) (hr_5 rfl) ?_
          refine aw_vret rfl dX6_step_272 (ble' rfl) (ble' rfl) ?_
          exact pd_v (by simp only [rd, stepT, tokT]; rw [if_neg hZL, if_neg n99, if_neg n158, if_pos c251, nI_1])
      · have n158 := bI_nz.mp c158
        refine aw_aload_n dX6_step_161 rfl ?_
        refine aw_iconst (v := 2) dX6_step_162 (by decide) ?_
        refine aw_put fp_X6_15_m dX6_step_163 er_62 (l_62 hn) (ble' rfl) (fun _ => ⟨rfl, rfl⟩) (hr_3 rfl) ?_
        refine aw_aload_n dX6_step_166 rfl ?_
        refine aw_iconst (v := 0) dX6_step_167 (by decide) ?_
        refine aw_put fp_X6_24_m dX6_step_168 er_62 (l_62 hn) (ble' rfl) (fun _ => ⟨rfl, rfl⟩) (hr_6 rfl) ?_
        exact lp_X6_di hn hL (pd_v (by simp only [rd, stepT, tokT]; rw [if_neg hZL, if_neg n99, if_pos n158])) (L + 1) _ _ _ (by omega) hZ rfl rfl rfl
    · have n99 := bI_nz.mp c99
      refine aw_aload_n dX6_step_102 rfl ?_
      refine aw_iconst (v := 1) dX6_step_103 (by decide) ?_
      refine aw_put fp_X6_15_m dX6_step_104 er_62 (l_62 hn) (ble' rfl) (fun _ => ⟨rfl, rfl⟩) (hr_3 rfl) ?_
      exact lp_X6_le hn hL (pd_v (by simp only [rd, stepT, tokT]; rw [if_neg hZL, if_pos n99])) (L + 1) _ _ (by omega) hZ rfl rfl
  · have n76 := Int32.not_lt.mp c76
    refine aw_aload_n dX6_step_79 rfl ?_
    refine aw_iconst (v := 0) dX6_step_80 (by decide) ?_
    refine aw_put fp_X6_15_m dX6_step_81 er_62 (l_62 hn) (ble' rfl) (fun _ => ⟨rfl, rfl⟩) (hr_3 rfl) ?_
    refine aw_goto 272 dX6_step_84 (by decide) ?_
    refine aw_vret rfl dX6_step_272 (ble' rfl) (ble' rfl) ?_
    exact pd_v (by simp only [rd, stepT, tokT]; rw [if_pos (le_of_nlt rfl rfl (by omega) (by omega) c76)])
