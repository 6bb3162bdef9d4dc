/-- what is in no row of ints: which camps are saved, the word that the reference reads, the law's own long -/
abbrev AG : Type := (Nat → Option Nat) × Int64 × Int64
def ent (G : AG) (i : Nat) (r : Nat → Int32) : AE := if i < 63 then (if i < 31 then (if i < 15 then (if i < 7 then (if i < 3 then (if i < 1 then (.inr (9, [.ref 1, .ref 28, .ref 55, .ref 56, .ref 58, .ref 61, .ref 62, .int (r 7)])) else (if i < 2 then (.inr (1, [.ref 2, .ref 6, .ref 9, .ref 15, .ref 22, .int (r 5)])) else (.inr (2, [.ref 3, .ref 4, .ref 5, .int (r 3)])))) else (if i < 5 then (if i < 4 then (.inl (0, 4, .inl r)) else (.inl (0, 4, .inl r))) else (if i < 6 then (.inl (0, 4, .inl r)) else (.inr (7, [.ref 7, .ref 8, .int (r 2)]))))) else (if i < 11 then (if i < 9 then (if i < 8 then (.inl (0, 16, .inl r)) else (.inl (0, 16, .inl r))) else (if i < 10 then (.inr (5, [.ref 10, .ref 11, .ref 12, .ref 13, .ref 14, .int (r 5)])) else (.inl (0, 12, .inl r)))) else (if i < 13 then (if i < 12 then (.inl (0, 12, .inl r)) else (.inl (0, 12, .inl r))) else (if i < 14 then (.inl (0, 12, .inl r)) else (.inl (0, 12, .inl r)))))) else (if i < 23 then (if i < 19 then (if i < 17 then (if i < 16 then (.inr (0, [.ref 16, .ref 17, .ref 18, .ref 19, .ref 20, .ref 21, .int (r 6)])) else (.inl (0, 60, .inl r))) else (if i < 18 then (.inl (0, 60, .inl r)) else (.inl (0, 60, .inl r)))) else (if i < 21 then (if i < 20 then (.inl (0, 60, .inl r)) else (.inl (0, 60, .inl r))) else (if i < 22 then (.inl (0, 60, .inl r)) else (.inr (4, [.ref 23, .ref 24, .ref 25, .ref 26, .ref 27, .int (r 5)]))))) else (if i < 27 then (if i < 25 then (if i < 24 then (.inl (0, 20, .inl r)) else (.inl (0, 20, .inl r))) else (if i < 26 then (.inl (0, 20, .inl r)) else (.inl (0, 20, .inl r)))) else (if i < 29 then (if i < 28 then (.inl (0, 20, .inl r)) else (.inr (1, [.ref 29, .ref 33, .ref 36, .ref 42, .ref 49, .int (r 5)]))) else (if i < 30 then (.inr (2, [.ref 30, .ref 31, .ref 32, .int (r 3)])) else (.inl (0, 4, .inl r))))))) else (if i < 47 then (if i < 39 then (if i < 35 then (if i < 33 then (if i < 32 then (.inl (0, 4, .inl r)) else (.inl (0, 4, .inl r))) else (if i < 34 then (.inr (7, [.ref 34, .ref 35, .int (r 2)])) else (.inl (0, 16, .inl r)))) else (if i < 37 then (if i < 36 then (.inl (0, 16, .inl r)) else (.inr (5, [.ref 37, .ref 38, .ref 39, .ref 40, .ref 41, .int (r 5)]))) else (if i < 38 then (.inl (0, 12, .inl r)) else (.inl (0, 12, .inl r))))) else (if i < 43 then (if i < 41 then (if i < 40 then (.inl (0, 12, .inl r)) else (.inl (0, 12, .inl r))) else (if i < 42 then (.inl (0, 12, .inl r)) else (.inr (0, [.ref 43, .ref 44, .ref 45, .ref 46, .ref 47, .ref 48, .int (r 6)])))) else (if i < 45 then (if i < 44 then (.inl (0, 60, .inl r)) else (.inl (0, 60, .inl r))) else (if i < 46 then (.inl (0, 60, .inl r)) else (.inl (0, 60, .inl r)))))) else (if i < 55 then (if i < 51 then (if i < 49 then (if i < 48 then (.inl (0, 60, .inl r)) else (.inl (0, 60, .inl r))) else (if i < 50 then (.inr (4, [.ref 50, .ref 51, .ref 52, .ref 53, .ref 54, .int (r 5)])) else (.inl (0, 20, .inl r)))) else (if i < 53 then (if i < 52 then (.inl (0, 20, .inl r)) else (.inl (0, 20, .inl r))) else (if i < 54 then (.inl (0, 20, .inl r)) else (.inl (0, 20, .inl r))))) else (if i < 59 then (if i < 57 then (if i < 56 then (.inl (4, 2, .inr (.inr (.inr (.inr G.1))))) else (.inr (8, [.ref 1, .ref 57, .int (r 2)]))) else (if i < 58 then (.inl (0, 999, .inl r)) else (.inr (3, [.ref 1, .ref 59, .ref 60, .int (r 3), .int (r 4)])))) else (if i < 61 then (if i < 60 then (.inl (0, 60, .inl r)) else (.inl (0, 16, .inl r))) else (if i < 62 then (.inl (1, 500, .inl r)) else (.inr (6, [.ref 61, .ref 28, .int (r 2), .int (r 3), .int (r 4), .int (r 5), .int (r 6), .int (r 7), .int (r 8)])))))))) else (if i < 94 then (if i < 78 then (if i < 70 then (if i < 66 then (if i < 64 then (.inr (10, [.ref 64, .ref 65, .ref 66, .ref 67, .int (r 4), .ref 68, .ref 69, .int (r 7), .int (r 8), .ref 70, .int (r 10), .int (r 11), .int (r 12), .int (r 13), .int (r 14), .int (r 15), .int (r 16), .int (r 17), .long G.2.1])) else (if i < 65 then (.inl (0, 572, .inl r)) else (.inl (0, 572, .inl r)))) else (if i < 68 then (if i < 67 then (.inl (0, 1144, .inl r)) else (.inl (3, 2, .inl r))) else (if i < 69 then (.inl (0, 60, .inl r)) else (.inl (0, 16, .inl r))))) else (if i < 74 then (if i < 72 then (if i < 71 then (.inl (0, 500, .inl r)) else (.inl (2, 1, .inr (.inl (fun _ => G.2.2))))) else (if i < 73 then (.inr (1, [.ref 73, .ref 77, .ref 80, .ref 86, .ref 93, .int (r 5)])) else (.inr (2, [.ref 74, .ref 75, .ref 76, .int (r 3)])))) else (if i < 76 then (if i < 75 then (.inl (0, 4, .inl r)) else (.inl (0, 4, .inl r))) else (if i < 77 then (.inl (0, 4, .inl r)) else (.inr (7, [.ref 78, .ref 79, .int (r 2)])))))) else (if i < 86 then (if i < 82 then (if i < 80 then (if i < 79 then (.inl (0, 16, .inl r)) else (.inl (0, 16, .inl r))) else (if i < 81 then (.inr (5, [.ref 81, .ref 82, .ref 83, .ref 84, .ref 85, .int (r 5)])) else (.inl (0, 12, .inl r)))) else (if i < 84 then (if i < 83 then (.inl (0, 12, .inl r)) else (.inl (0, 12, .inl r))) else (if i < 85 then (.inl (0, 12, .inl r)) else (.inl (0, 12, .inl r))))) else (if i < 90 then (if i < 88 then (if i < 87 then (.inr (0, [.ref 87, .ref 88, .ref 89, .ref 90, .ref 91, .ref 92, .int (r 6)])) else (.inl (0, 60, .inl r))) else (if i < 89 then (.inl (0, 60, .inl r)) else (.inl (0, 60, .inl r)))) else (if i < 92 then (if i < 91 then (.inl (0, 60, .inl r)) else (.inl (0, 60, .inl r))) else (if i < 93 then (.inl (0, 60, .inl r)) else (.inr (4, [.ref 94, .ref 95, .ref 96, .ref 97, .ref 98, .int (r 5)]))))))) else (if i < 110 then (if i < 102 then (if i < 98 then (if i < 96 then (if i < 95 then (.inl (0, 20, .inl r)) else (.inl (0, 20, .inl r))) else (if i < 97 then (.inl (0, 20, .inl r)) else (.inl (0, 20, .inl r)))) else (if i < 100 then (if i < 99 then (.inl (0, 20, .inl r)) else (.inr (1, [.ref 100, .ref 104, .ref 107, .ref 113, .ref 120, .int (r 5)]))) else (if i < 101 then (.inr (2, [.ref 101, .ref 102, .ref 103, .int (r 3)])) else (.inl (0, 4, .inl r))))) else (if i < 106 then (if i < 104 then (if i < 103 then (.inl (0, 4, .inl r)) else (.inl (0, 4, .inl r))) else (if i < 105 then (.inr (7, [.ref 105, .ref 106, .int (r 2)])) else (.inl (0, 16, .inl r)))) else (if i < 108 then (if i < 107 then (.inl (0, 16, .inl r)) else (.inr (5, [.ref 108, .ref 109, .ref 110, .ref 111, .ref 112, .int (r 5)]))) else (if i < 109 then (.inl (0, 12, .inl r)) else (.inl (0, 12, .inl r)))))) else (if i < 118 then (if i < 114 then (if i < 112 then (if i < 111 then (.inl (0, 12, .inl r)) else (.inl (0, 12, .inl r))) else (if i < 113 then (.inl (0, 12, .inl r)) else (.inr (0, [.ref 114, .ref 115, .ref 116, .ref 117, .ref 118, .ref 119, .int (r 6)])))) else (if i < 116 then (if i < 115 then (.inl (0, 60, .inl r)) else (.inl (0, 60, .inl r))) else (if i < 117 then (.inl (0, 60, .inl r)) else (.inl (0, 60, .inl r))))) else (if i < 122 then (if i < 120 then (if i < 119 then (.inl (0, 60, .inl r)) else (.inl (0, 60, .inl r))) else (if i < 121 then (.inr (4, [.ref 121, .ref 122, .ref 123, .ref 124, .ref 125, .int (r 5)])) else (.inl (0, 20, .inl r)))) else (if i < 124 then (if i < 123 then (.inl (0, 20, .inl r)) else (.inl (0, 20, .inl r))) else (if i < 125 then (.inl (0, 20, .inl r)) else (.inl (0, 20, .inl r))))))))
/-- the entries, out of the rows of ints M -/
def wld (G : AG) (M : Nat → Nat → Int32) : Nat → AE := fun i => ent G i (M i)
def updM (M : Nat → Nat → Int32) (i : Nat) (r : Nat → Int32) : Nat → Nat → Int32 := fun j => if j = i then r else M j
theorem updM_s {M : Nat → Nat → Int32} {i : Nat} {r : Nat → Int32} : updM M i r i = r := if_pos rfl
theorem updM_n {M : Nat → Nat → Int32} {i j : Nat} {r : Nat → Int32} (h : j ≠ i) : updM M i r j = M j := if_neg h
theorem hset_wld {G : AG} {M : Nat → Nat → Int32} {i : Nat} {r : Nat → Int32} {e : AE} (he : ent G i r = e) : hset (wld G M) i e = wld G (updM M i r) := by
  funext j
  unfold hset wld updM
  by_cases hj : j = i
  · subst hj
    rw [if_pos rfl, if_pos rfl, he]
  · rw [if_neg hj, if_neg hj]
/-- a field of ints written -/
theorem hwf {G : AG} {M : Nat → Nat → Int32} {i k ci : Nat} {fs : List Value} {x : Int32} (he : ent G i (upd (M i) k x) = .inr (ci, fs.set k (.int x))) : hset (wld G M) i (.inr (ci, fs.set k (.int x))) = wld G (updM M i (upd (M i) k x)) := hset_wld he
/-- a place of an array of ints written -/
theorem hwa {G : AG} {M : Nat → Nat → Int32} {i len kd : Nat} {r : Nat → Int32} (he : ent G i r = .inl (kd, len, .inl r)) : hset (wld G M) i (.inl (kd, len, .inl r)) = wld G (updM M i r) := hset_wld he
theorem e_0 {G : AG} {M : Nat → Nat → Int32} : wld G M 0 = .inr (9, [.ref 1, .ref 28, .ref 55, .ref 56, .ref 58, .ref 61, .ref 62, .int (M 0 7)]) := rfl
theorem l_0 {n : Nat} (hn : 72 ≤ n) : 0 < n := Nat.lt_of_lt_of_le (by decide) hn
theorem e_1 {G : AG} {M : Nat → Nat → Int32} : wld G M 1 = .inr (1, [.ref 2, .ref 6, .ref 9, .ref 15, .ref 22, .int (M 1 5)]) := rfl
theorem l_1 {n : Nat} (hn : 72 ≤ n) : 1 < n := Nat.lt_of_lt_of_le (by decide) hn
theorem e_2 {G : AG} {M : Nat → Nat → Int32} : wld G M 2 = .inr (2, [.ref 3, .ref 4, .ref 5, .int (M 2 3)]) := rfl
theorem l_2 {n : Nat} (hn : 72 ≤ n) : 2 < n := Nat.lt_of_lt_of_le (by decide) hn
theorem e_3 {G : AG} {M : Nat → Nat → Int32} : wld G M 3 = .inl (0, 4, .inl (M 3)) := rfl
theorem l_3 {n : Nat} (hn : 72 ≤ n) : 3 < n := Nat.lt_of_lt_of_le (by decide) hn
theorem e_4 {G : AG} {M : Nat → Nat → Int32} : wld G M 4 = .inl (0, 4, .inl (M 4)) := rfl
theorem l_4 {n : Nat} (hn : 72 ≤ n) : 4 < n := Nat.lt_of_lt_of_le (by decide) hn
theorem e_5 {G : AG} {M : Nat → Nat → Int32} : wld G M 5 = .inl (0, 4, .inl (M 5)) := rfl
theorem l_5 {n : Nat} (hn : 72 ≤ n) : 5 < n := Nat.lt_of_lt_of_le (by decide) hn
theorem e_6 {G : AG} {M : Nat → Nat → Int32} : wld G M 6 = .inr (7, [.ref 7, .ref 8, .int (M 6 2)]) := rfl
theorem l_6 {n : Nat} (hn : 72 ≤ n) : 6 < n := Nat.lt_of_lt_of_le (by decide) hn
theorem e_7 {G : AG} {M : Nat → Nat → Int32} : wld G M 7 = .inl (0, 16, .inl (M 7)) := rfl
theorem l_7 {n : Nat} (hn : 72 ≤ n) : 7 < n := Nat.lt_of_lt_of_le (by decide) hn
theorem e_8 {G : AG} {M : Nat → Nat → Int32} : wld G M 8 = .inl (0, 16, .inl (M 8)) := rfl
theorem l_8 {n : Nat} (hn : 72 ≤ n) : 8 < n := Nat.lt_of_lt_of_le (by decide) hn
theorem e_9 {G : AG} {M : Nat → Nat → Int32} : wld G M 9 = .inr (5, [.ref 10, .ref 11, .ref 12, .ref 13, .ref 14, .int (M 9 5)]) := rfl
theorem l_9 {n : Nat} (hn : 72 ≤ n) : 9 < n := Nat.lt_of_lt_of_le (by decide) hn
theorem e_10 {G : AG} {M : Nat → Nat → Int32} : wld G M 10 = .inl (0, 12, .inl (M 10)) := rfl
theorem l_10 {n : Nat} (hn : 72 ≤ n) : 10 < n := Nat.lt_of_lt_of_le (by decide) hn
theorem e_11 {G : AG} {M : Nat → Nat → Int32} : wld G M 11 = .inl (0, 12, .inl (M 11)) := rfl
theorem l_11 {n : Nat} (hn : 72 ≤ n) : 11 < n := Nat.lt_of_lt_of_le (by decide) hn
theorem e_12 {G : AG} {M : Nat → Nat → Int32} : wld G M 12 = .inl (0, 12, .inl (M 12)) := rfl
theorem l_12 {n : Nat} (hn : 72 ≤ n) : 12 < n := Nat.lt_of_lt_of_le (by decide) hn
theorem e_13 {G : AG} {M : Nat → Nat → Int32} : wld G M 13 = .inl (0, 12, .inl (M 13)) := rfl
theorem l_13 {n : Nat} (hn : 72 ≤ n) : 13 < n := Nat.lt_of_lt_of_le (by decide) hn
theorem e_14 {G : AG} {M : Nat → Nat → Int32} : wld G M 14 = .inl (0, 12, .inl (M 14)) := rfl
theorem l_14 {n : Nat} (hn : 72 ≤ n) : 14 < n := Nat.lt_of_lt_of_le (by decide) hn
theorem e_15 {G : AG} {M : Nat → Nat → Int32} : wld G M 15 = .inr (0, [.ref 16, .ref 17, .ref 18, .ref 19, .ref 20, .ref 21, .int (M 15 6)]) := rfl
theorem l_15 {n : Nat} (hn : 72 ≤ n) : 15 < n := Nat.lt_of_lt_of_le (by decide) hn
theorem e_16 {G : AG} {M : Nat → Nat → Int32} : wld G M 16 = .inl (0, 60, .inl (M 16)) := rfl
theorem l_16 {n : Nat} (hn : 72 ≤ n) : 16 < n := Nat.lt_of_lt_of_le (by decide) hn
theorem e_17 {G : AG} {M : Nat → Nat → Int32} : wld G M 17 = .inl (0, 60, .inl (M 17)) := rfl
theorem l_17 {n : Nat} (hn : 72 ≤ n) : 17 < n := Nat.lt_of_lt_of_le (by decide) hn
theorem e_18 {G : AG} {M : Nat → Nat → Int32} : wld G M 18 = .inl (0, 60, .inl (M 18)) := rfl
theorem l_18 {n : Nat} (hn : 72 ≤ n) : 18 < n := Nat.lt_of_lt_of_le (by decide) hn
theorem e_19 {G : AG} {M : Nat → Nat → Int32} : wld G M 19 = .inl (0, 60, .inl (M 19)) := rfl
theorem l_19 {n : Nat} (hn : 72 ≤ n) : 19 < n := Nat.lt_of_lt_of_le (by decide) hn
theorem e_20 {G : AG} {M : Nat → Nat → Int32} : wld G M 20 = .inl (0, 60, .inl (M 20)) := rfl
theorem l_20 {n : Nat} (hn : 72 ≤ n) : 20 < n := Nat.lt_of_lt_of_le (by decide) hn
theorem e_21 {G : AG} {M : Nat → Nat → Int32} : wld G M 21 = .inl (0, 60, .inl (M 21)) := rfl
theorem l_21 {n : Nat} (hn : 72 ≤ n) : 21 < n := Nat.lt_of_lt_of_le (by decide) hn
theorem e_22 {G : AG} {M : Nat → Nat → Int32} : wld G M 22 = .inr (4, [.ref 23, .ref 24, .ref 25, .ref 26, .ref 27, .int (M 22 5)]) := rfl
theorem l_22 {n : Nat} (hn : 72 ≤ n) : 22 < n := Nat.lt_of_lt_of_le (by decide) hn
theorem e_23 {G : AG} {M : Nat → Nat → Int32} : wld G M 23 = .inl (0, 20, .inl (M 23)) := rfl
theorem l_23 {n : Nat} (hn : 72 ≤ n) : 23 < n := Nat.lt_of_lt_of_le (by decide) hn
theorem e_24 {G : AG} {M : Nat → Nat → Int32} : wld G M 24 = .inl (0, 20, .inl (M 24)) := rfl
theorem l_24 {n : Nat} (hn : 72 ≤ n) : 24 < n := Nat.lt_of_lt_of_le (by decide) hn
theorem e_25 {G : AG} {M : Nat → Nat → Int32} : wld G M 25 = .inl (0, 20, .inl (M 25)) := rfl
theorem l_25 {n : Nat} (hn : 72 ≤ n) : 25 < n := Nat.lt_of_lt_of_le (by decide) hn
theorem e_26 {G : AG} {M : Nat → Nat → Int32} : wld G M 26 = .inl (0, 20, .inl (M 26)) := rfl
theorem l_26 {n : Nat} (hn : 72 ≤ n) : 26 < n := Nat.lt_of_lt_of_le (by decide) hn
theorem e_27 {G : AG} {M : Nat → Nat → Int32} : wld G M 27 = .inl (0, 20, .inl (M 27)) := rfl
theorem l_27 {n : Nat} (hn : 72 ≤ n) : 27 < n := Nat.lt_of_lt_of_le (by decide) hn
theorem e_28 {G : AG} {M : Nat → Nat → Int32} : wld G M 28 = .inr (1, [.ref 29, .ref 33, .ref 36, .ref 42, .ref 49, .int (M 28 5)]) := rfl
theorem l_28 {n : Nat} (hn : 72 ≤ n) : 28 < n := Nat.lt_of_lt_of_le (by decide) hn
theorem e_29 {G : AG} {M : Nat → Nat → Int32} : wld G M 29 = .inr (2, [.ref 30, .ref 31, .ref 32, .int (M 29 3)]) := rfl
theorem l_29 {n : Nat} (hn : 72 ≤ n) : 29 < n := Nat.lt_of_lt_of_le (by decide) hn
theorem e_30 {G : AG} {M : Nat → Nat → Int32} : wld G M 30 = .inl (0, 4, .inl (M 30)) := rfl
theorem l_30 {n : Nat} (hn : 72 ≤ n) : 30 < n := Nat.lt_of_lt_of_le (by decide) hn
theorem e_31 {G : AG} {M : Nat → Nat → Int32} : wld G M 31 = .inl (0, 4, .inl (M 31)) := rfl
theorem l_31 {n : Nat} (hn : 72 ≤ n) : 31 < n := Nat.lt_of_lt_of_le (by decide) hn
theorem e_32 {G : AG} {M : Nat → Nat → Int32} : wld G M 32 = .inl (0, 4, .inl (M 32)) := rfl
theorem l_32 {n : Nat} (hn : 72 ≤ n) : 32 < n := Nat.lt_of_lt_of_le (by decide) hn
theorem e_33 {G : AG} {M : Nat → Nat → Int32} : wld G M 33 = .inr (7, [.ref 34, .ref 35, .int (M 33 2)]) := rfl
theorem l_33 {n : Nat} (hn : 72 ≤ n) : 33 < n := Nat.lt_of_lt_of_le (by decide) hn
theorem e_34 {G : AG} {M : Nat → Nat → Int32} : wld G M 34 = .inl (0, 16, .inl (M 34)) := rfl
theorem l_34 {n : Nat} (hn : 72 ≤ n) : 34 < n := Nat.lt_of_lt_of_le (by decide) hn
theorem e_35 {G : AG} {M : Nat → Nat → Int32} : wld G M 35 = .inl (0, 16, .inl (M 35)) := rfl
theorem l_35 {n : Nat} (hn : 72 ≤ n) : 35 < n := Nat.lt_of_lt_of_le (by decide) hn
theorem e_36 {G : AG} {M : Nat → Nat → Int32} : wld G M 36 = .inr (5, [.ref 37, .ref 38, .ref 39, .ref 40, .ref 41, .int (M 36 5)]) := rfl
theorem l_36 {n : Nat} (hn : 72 ≤ n) : 36 < n := Nat.lt_of_lt_of_le (by decide) hn
theorem e_37 {G : AG} {M : Nat → Nat → Int32} : wld G M 37 = .inl (0, 12, .inl (M 37)) := rfl
theorem l_37 {n : Nat} (hn : 72 ≤ n) : 37 < n := Nat.lt_of_lt_of_le (by decide) hn
theorem e_38 {G : AG} {M : Nat → Nat → Int32} : wld G M 38 = .inl (0, 12, .inl (M 38)) := rfl
theorem l_38 {n : Nat} (hn : 72 ≤ n) : 38 < n := Nat.lt_of_lt_of_le (by decide) hn
theorem e_39 {G : AG} {M : Nat → Nat → Int32} : wld G M 39 = .inl (0, 12, .inl (M 39)) := rfl
theorem l_39 {n : Nat} (hn : 72 ≤ n) : 39 < n := Nat.lt_of_lt_of_le (by decide) hn
theorem e_40 {G : AG} {M : Nat → Nat → Int32} : wld G M 40 = .inl (0, 12, .inl (M 40)) := rfl
theorem l_40 {n : Nat} (hn : 72 ≤ n) : 40 < n := Nat.lt_of_lt_of_le (by decide) hn
theorem e_41 {G : AG} {M : Nat → Nat → Int32} : wld G M 41 = .inl (0, 12, .inl (M 41)) := rfl
theorem l_41 {n : Nat} (hn : 72 ≤ n) : 41 < n := Nat.lt_of_lt_of_le (by decide) hn
theorem e_42 {G : AG} {M : Nat → Nat → Int32} : wld G M 42 = .inr (0, [.ref 43, .ref 44, .ref 45, .ref 46, .ref 47, .ref 48, .int (M 42 6)]) := rfl
theorem l_42 {n : Nat} (hn : 72 ≤ n) : 42 < n := Nat.lt_of_lt_of_le (by decide) hn
theorem e_43 {G : AG} {M : Nat → Nat → Int32} : wld G M 43 = .inl (0, 60, .inl (M 43)) := rfl
theorem l_43 {n : Nat} (hn : 72 ≤ n) : 43 < n := Nat.lt_of_lt_of_le (by decide) hn
theorem e_44 {G : AG} {M : Nat → Nat → Int32} : wld G M 44 = .inl (0, 60, .inl (M 44)) := rfl
theorem l_44 {n : Nat} (hn : 72 ≤ n) : 44 < n := Nat.lt_of_lt_of_le (by decide) hn
theorem e_45 {G : AG} {M : Nat → Nat → Int32} : wld G M 45 = .inl (0, 60, .inl (M 45)) := rfl
theorem l_45 {n : Nat} (hn : 72 ≤ n) : 45 < n := Nat.lt_of_lt_of_le (by decide) hn
theorem e_46 {G : AG} {M : Nat → Nat → Int32} : wld G M 46 = .inl (0, 60, .inl (M 46)) := rfl
theorem l_46 {n : Nat} (hn : 72 ≤ n) : 46 < n := Nat.lt_of_lt_of_le (by decide) hn
theorem e_47 {G : AG} {M : Nat → Nat → Int32} : wld G M 47 = .inl (0, 60, .inl (M 47)) := rfl
theorem l_47 {n : Nat} (hn : 72 ≤ n) : 47 < n := Nat.lt_of_lt_of_le (by decide) hn
theorem e_48 {G : AG} {M : Nat → Nat → Int32} : wld G M 48 = .inl (0, 60, .inl (M 48)) := rfl
theorem l_48 {n : Nat} (hn : 72 ≤ n) : 48 < n := Nat.lt_of_lt_of_le (by decide) hn
theorem e_49 {G : AG} {M : Nat → Nat → Int32} : wld G M 49 = .inr (4, [.ref 50, .ref 51, .ref 52, .ref 53, .ref 54, .int (M 49 5)]) := rfl
theorem l_49 {n : Nat} (hn : 72 ≤ n) : 49 < n := Nat.lt_of_lt_of_le (by decide) hn
theorem e_50 {G : AG} {M : Nat → Nat → Int32} : wld G M 50 = .inl (0, 20, .inl (M 50)) := rfl
theorem l_50 {n : Nat} (hn : 72 ≤ n) : 50 < n := Nat.lt_of_lt_of_le (by decide) hn
theorem e_51 {G : AG} {M : Nat → Nat → Int32} : wld G M 51 = .inl (0, 20, .inl (M 51)) := rfl
theorem l_51 {n : Nat} (hn : 72 ≤ n) : 51 < n := Nat.lt_of_lt_of_le (by decide) hn
theorem e_52 {G : AG} {M : Nat → Nat → Int32} : wld G M 52 = .inl (0, 20, .inl (M 52)) := rfl
theorem l_52 {n : Nat} (hn : 72 ≤ n) : 52 < n := Nat.lt_of_lt_of_le (by decide) hn
theorem e_53 {G : AG} {M : Nat → Nat → Int32} : wld G M 53 = .inl (0, 20, .inl (M 53)) := rfl
theorem l_53 {n : Nat} (hn : 72 ≤ n) : 53 < n := Nat.lt_of_lt_of_le (by decide) hn
theorem e_54 {G : AG} {M : Nat → Nat → Int32} : wld G M 54 = .inl (0, 20, .inl (M 54)) := rfl
theorem l_54 {n : Nat} (hn : 72 ≤ n) : 54 < n := Nat.lt_of_lt_of_le (by decide) hn
theorem e_55 {G : AG} {M : Nat → Nat → Int32} : wld G M 55 = .inl (4, 2, .inr (.inr (.inr (.inr G.1)))) := rfl
theorem l_55 {n : Nat} (hn : 72 ≤ n) : 55 < n := Nat.lt_of_lt_of_le (by decide) hn
theorem e_56 {G : AG} {M : Nat → Nat → Int32} : wld G M 56 = .inr (8, [.ref 1, .ref 57, .int (M 56 2)]) := rfl
theorem l_56 {n : Nat} (hn : 72 ≤ n) : 56 < n := Nat.lt_of_lt_of_le (by decide) hn
theorem e_57 {G : AG} {M : Nat → Nat → Int32} : wld G M 57 = .inl (0, 999, .inl (M 57)) := rfl
theorem l_57 {n : Nat} (hn : 72 ≤ n) : 57 < n := Nat.lt_of_lt_of_le (by decide) hn
theorem e_58 {G : AG} {M : Nat → Nat → Int32} : wld G M 58 = .inr (3, [.ref 1, .ref 59, .ref 60, .int (M 58 3), .int (M 58 4)]) := rfl
theorem l_58 {n : Nat} (hn : 72 ≤ n) : 58 < n := Nat.lt_of_lt_of_le (by decide) hn
theorem e_59 {G : AG} {M : Nat → Nat → Int32} : wld G M 59 = .inl (0, 60, .inl (M 59)) := rfl
theorem l_59 {n : Nat} (hn : 72 ≤ n) : 59 < n := Nat.lt_of_lt_of_le (by decide) hn
theorem e_60 {G : AG} {M : Nat → Nat → Int32} : wld G M 60 = .inl (0, 16, .inl (M 60)) := rfl
theorem l_60 {n : Nat} (hn : 72 ≤ n) : 60 < n := Nat.lt_of_lt_of_le (by decide) hn
theorem e_61 {G : AG} {M : Nat → Nat → Int32} : wld G M 61 = .inl (1, 500, .inl (M 61)) := rfl
theorem l_61 {n : Nat} (hn : 72 ≤ n) : 61 < n := Nat.lt_of_lt_of_le (by decide) hn
theorem e_62 {G : AG} {M : Nat → Nat → Int32} : wld G M 62 = .inr (6, [.ref 61, .ref 28, .int (M 62 2), .int (M 62 3), .int (M 62 4), .int (M 62 5), .int (M 62 6), .int (M 62 7), .int (M 62 8)]) := rfl
theorem l_62 {n : Nat} (hn : 72 ≤ n) : 62 < n := Nat.lt_of_lt_of_le (by decide) hn
theorem e_63 {G : AG} {M : Nat → Nat → Int32} : wld G M 63 = .inr (10, [.ref 64, .ref 65, .ref 66, .ref 67, .int (M 63 4), .ref 68, .ref 69, .int (M 63 7), .int (M 63 8), .ref 70, .int (M 63 10), .int (M 63 11), .int (M 63 12), .int (M 63 13), .int (M 63 14), .int (M 63 15), .int (M 63 16), .int (M 63 17), .long G.2.1]) := rfl
theorem l_63 {n : Nat} (hn : 72 ≤ n) : 63 < n := Nat.lt_of_lt_of_le (by decide) hn
theorem e_64 {G : AG} {M : Nat → Nat → Int32} : wld G M 64 = .inl (0, 572, .inl (M 64)) := rfl
theorem l_64 {n : Nat} (hn : 72 ≤ n) : 64 < n := Nat.lt_of_lt_of_le (by decide) hn
theorem e_65 {G : AG} {M : Nat → Nat → Int32} : wld G M 65 = .inl (0, 572, .inl (M 65)) := rfl
theorem l_65 {n : Nat} (hn : 72 ≤ n) : 65 < n := Nat.lt_of_lt_of_le (by decide) hn
theorem e_66 {G : AG} {M : Nat → Nat → Int32} : wld G M 66 = .inl (0, 1144, .inl (M 66)) := rfl
theorem l_66 {n : Nat} (hn : 72 ≤ n) : 66 < n := Nat.lt_of_lt_of_le (by decide) hn
theorem e_67 {G : AG} {M : Nat → Nat → Int32} : wld G M 67 = .inl (3, 2, .inl (M 67)) := rfl
theorem l_67 {n : Nat} (hn : 72 ≤ n) : 67 < n := Nat.lt_of_lt_of_le (by decide) hn
theorem e_68 {G : AG} {M : Nat → Nat → Int32} : wld G M 68 = .inl (0, 60, .inl (M 68)) := rfl
theorem l_68 {n : Nat} (hn : 72 ≤ n) : 68 < n := Nat.lt_of_lt_of_le (by decide) hn
theorem e_69 {G : AG} {M : Nat → Nat → Int32} : wld G M 69 = .inl (0, 16, .inl (M 69)) := rfl
theorem l_69 {n : Nat} (hn : 72 ≤ n) : 69 < n := Nat.lt_of_lt_of_le (by decide) hn
theorem e_70 {G : AG} {M : Nat → Nat → Int32} : wld G M 70 = .inl (0, 500, .inl (M 70)) := rfl
theorem l_70 {n : Nat} (hn : 72 ≤ n) : 70 < n := Nat.lt_of_lt_of_le (by decide) hn
theorem e_71 {G : AG} {M : Nat → Nat → Int32} : wld G M 71 = .inl (2, 1, .inr (.inl (fun _ => G.2.2))) := rfl
theorem l_71 {n : Nat} (hn : 72 ≤ n) : 71 < n := Nat.lt_of_lt_of_le (by decide) hn
theorem e_72 {G : AG} {M : Nat → Nat → Int32} : wld G M 72 = .inr (1, [.ref 73, .ref 77, .ref 80, .ref 86, .ref 93, .int (M 72 5)]) := rfl
theorem e_73 {G : AG} {M : Nat → Nat → Int32} : wld G M 73 = .inr (2, [.ref 74, .ref 75, .ref 76, .int (M 73 3)]) := rfl
theorem e_74 {G : AG} {M : Nat → Nat → Int32} : wld G M 74 = .inl (0, 4, .inl (M 74)) := rfl
theorem e_75 {G : AG} {M : Nat → Nat → Int32} : wld G M 75 = .inl (0, 4, .inl (M 75)) := rfl
theorem e_76 {G : AG} {M : Nat → Nat → Int32} : wld G M 76 = .inl (0, 4, .inl (M 76)) := rfl
theorem e_77 {G : AG} {M : Nat → Nat → Int32} : wld G M 77 = .inr (7, [.ref 78, .ref 79, .int (M 77 2)]) := rfl
theorem e_78 {G : AG} {M : Nat → Nat → Int32} : wld G M 78 = .inl (0, 16, .inl (M 78)) := rfl
theorem e_79 {G : AG} {M : Nat → Nat → Int32} : wld G M 79 = .inl (0, 16, .inl (M 79)) := rfl
theorem e_80 {G : AG} {M : Nat → Nat → Int32} : wld G M 80 = .inr (5, [.ref 81, .ref 82, .ref 83, .ref 84, .ref 85, .int (M 80 5)]) := rfl
theorem e_81 {G : AG} {M : Nat → Nat → Int32} : wld G M 81 = .inl (0, 12, .inl (M 81)) := rfl
theorem e_82 {G : AG} {M : Nat → Nat → Int32} : wld G M 82 = .inl (0, 12, .inl (M 82)) := rfl
theorem e_83 {G : AG} {M : Nat → Nat → Int32} : wld G M 83 = .inl (0, 12, .inl (M 83)) := rfl
theorem e_84 {G : AG} {M : Nat → Nat → Int32} : wld G M 84 = .inl (0, 12, .inl (M 84)) := rfl
theorem e_85 {G : AG} {M : Nat → Nat → Int32} : wld G M 85 = .inl (0, 12, .inl (M 85)) := rfl
theorem e_86 {G : AG} {M : Nat → Nat → Int32} : wld G M 86 = .inr (0, [.ref 87, .ref 88, .ref 89, .ref 90, .ref 91, .ref 92, .int (M 86 6)]) := rfl
theorem e_87 {G : AG} {M : Nat → Nat → Int32} : wld G M 87 = .inl (0, 60, .inl (M 87)) := rfl
theorem e_88 {G : AG} {M : Nat → Nat → Int32} : wld G M 88 = .inl (0, 60, .inl (M 88)) := rfl
theorem e_89 {G : AG} {M : Nat → Nat → Int32} : wld G M 89 = .inl (0, 60, .inl (M 89)) := rfl
theorem e_90 {G : AG} {M : Nat → Nat → Int32} : wld G M 90 = .inl (0, 60, .inl (M 90)) := rfl
theorem e_91 {G : AG} {M : Nat → Nat → Int32} : wld G M 91 = .inl (0, 60, .inl (M 91)) := rfl
theorem e_92 {G : AG} {M : Nat → Nat → Int32} : wld G M 92 = .inl (0, 60, .inl (M 92)) := rfl
theorem e_93 {G : AG} {M : Nat → Nat → Int32} : wld G M 93 = .inr (4, [.ref 94, .ref 95, .ref 96, .ref 97, .ref 98, .int (M 93 5)]) := rfl
theorem e_94 {G : AG} {M : Nat → Nat → Int32} : wld G M 94 = .inl (0, 20, .inl (M 94)) := rfl
theorem e_95 {G : AG} {M : Nat → Nat → Int32} : wld G M 95 = .inl (0, 20, .inl (M 95)) := rfl
theorem e_96 {G : AG} {M : Nat → Nat → Int32} : wld G M 96 = .inl (0, 20, .inl (M 96)) := rfl
theorem e_97 {G : AG} {M : Nat → Nat → Int32} : wld G M 97 = .inl (0, 20, .inl (M 97)) := rfl
theorem e_98 {G : AG} {M : Nat → Nat → Int32} : wld G M 98 = .inl (0, 20, .inl (M 98)) := rfl
theorem e_99 {G : AG} {M : Nat → Nat → Int32} : wld G M 99 = .inr (1, [.ref 100, .ref 104, .ref 107, .ref 113, .ref 120, .int (M 99 5)]) := rfl
theorem e_100 {G : AG} {M : Nat → Nat → Int32} : wld G M 100 = .inr (2, [.ref 101, .ref 102, .ref 103, .int (M 100 3)]) := rfl
theorem e_101 {G : AG} {M : Nat → Nat → Int32} : wld G M 101 = .inl (0, 4, .inl (M 101)) := rfl
theorem e_102 {G : AG} {M : Nat → Nat → Int32} : wld G M 102 = .inl (0, 4, .inl (M 102)) := rfl
theorem e_103 {G : AG} {M : Nat → Nat → Int32} : wld G M 103 = .inl (0, 4, .inl (M 103)) := rfl
theorem e_104 {G : AG} {M : Nat → Nat → Int32} : wld G M 104 = .inr (7, [.ref 105, .ref 106, .int (M 104 2)]) := rfl
theorem e_105 {G : AG} {M : Nat → Nat → Int32} : wld G M 105 = .inl (0, 16, .inl (M 105)) := rfl
theorem e_106 {G : AG} {M : Nat → Nat → Int32} : wld G M 106 = .inl (0, 16, .inl (M 106)) := rfl
theorem e_107 {G : AG} {M : Nat → Nat → Int32} : wld G M 107 = .inr (5, [.ref 108, .ref 109, .ref 110, .ref 111, .ref 112, .int (M 107 5)]) := rfl
theorem e_108 {G : AG} {M : Nat → Nat → Int32} : wld G M 108 = .inl (0, 12, .inl (M 108)) := rfl
theorem e_109 {G : AG} {M : Nat → Nat → Int32} : wld G M 109 = .inl (0, 12, .inl (M 109)) := rfl
theorem e_110 {G : AG} {M : Nat → Nat → Int32} : wld G M 110 = .inl (0, 12, .inl (M 110)) := rfl
theorem e_111 {G : AG} {M : Nat → Nat → Int32} : wld G M 111 = .inl (0, 12, .inl (M 111)) := rfl
theorem e_112 {G : AG} {M : Nat → Nat → Int32} : wld G M 112 = .inl (0, 12, .inl (M 112)) := rfl
theorem e_113 {G : AG} {M : Nat → Nat → Int32} : wld G M 113 = .inr (0, [.ref 114, .ref 115, .ref 116, .ref 117, .ref 118, .ref 119, .int (M 113 6)]) := rfl
theorem e_114 {G : AG} {M : Nat → Nat → Int32} : wld G M 114 = .inl (0, 60, .inl (M 114)) := rfl
theorem e_115 {G : AG} {M : Nat → Nat → Int32} : wld G M 115 = .inl (0, 60, .inl (M 115)) := rfl
theorem e_116 {G : AG} {M : Nat → Nat → Int32} : wld G M 116 = .inl (0, 60, .inl (M 116)) := rfl
theorem e_117 {G : AG} {M : Nat → Nat → Int32} : wld G M 117 = .inl (0, 60, .inl (M 117)) := rfl
theorem e_118 {G : AG} {M : Nat → Nat → Int32} : wld G M 118 = .inl (0, 60, .inl (M 118)) := rfl
theorem e_119 {G : AG} {M : Nat → Nat → Int32} : wld G M 119 = .inl (0, 60, .inl (M 119)) := rfl
theorem e_120 {G : AG} {M : Nat → Nat → Int32} : wld G M 120 = .inr (4, [.ref 121, .ref 122, .ref 123, .ref 124, .ref 125, .int (M 120 5)]) := rfl
theorem e_121 {G : AG} {M : Nat → Nat → Int32} : wld G M 121 = .inl (0, 20, .inl (M 121)) := rfl
theorem e_122 {G : AG} {M : Nat → Nat → Int32} : wld G M 122 = .inl (0, 20, .inl (M 122)) := rfl
theorem e_123 {G : AG} {M : Nat → Nat → Int32} : wld G M 123 = .inl (0, 20, .inl (M 123)) := rfl
theorem e_124 {G : AG} {M : Nat → Nat → Int32} : wld G M 124 = .inl (0, 20, .inl (M 124)) := rfl
theorem e_125 {G : AG} {M : Nat → Nat → Int32} : wld G M 125 = .inl (0, 20, .inl (M 125)) := rfl
/-- an end that is known: the answer (or what is thrown), the entries, their number -/
def PD (o : Option Value ⊕ String) (h : Nat → AE) (n : Nat) : APost := fun o1 h1 n1 => o1 = o ∧ h1 = h ∧ n1 = n
theorem pd_i {v w : Int32} {h : Nat → AE} {n : Nat} (e : v = w) : PD (.inl (some (.int w))) h n (.inl (some (.int v))) h n := ⟨by rw [e], rfl, rfl⟩
theorem pd_ih {v w : Int32} {h h' : Nat → AE} {n : Nat} (e : v = w) (eh : h' = h) : PD (.inl (some (.int w))) h n (.inl (some (.int v))) h' n := ⟨by rw [e], eh, rfl⟩
theorem pd_v {h h' : Nat → AE} {n : Nat} (eh : h' = h) : PD (.inl none) h n (.inl none) h' n := ⟨rfl, eh, rfl⟩
theorem pd_na {o : Option Value ⊕ String} {h : Nat → AE} {n : Nat} : ∀ o1 h1 n1, PD o h n o1 h1 n1 → n1 = n := fun _ _ _ q => q.2.2
theorem pd_nx {v : Option Value} {h : Nat → AE} {n : Nat} : ∀ E h1 n1, ¬ PD (.inl v) h n (.inr E) h1 n1 := fun _ _ _ q => by cases q.1
def bI (b : Prop) [Decidable b] : Int32 := if b then 1 else 0
theorem bI_t {b : Prop} [Decidable b] (h : b) : bI b = 1 := if_pos h
theorem bI_f {b : Prop} [Decidable b] (h : ¬ b) : bI b = 0 := if_neg h
section Prows
variable {T Tc : ATy} {Q : AQ} {CX : AC} {pc : Nat} {lo : List (Option Value)} {st : List Value} {h h2 : Nat → AE} {n n2 ce sl : Nat} {y : MethodName} {index : Nat} {sk as : List Value} {i ci na : Nat} {fs : List Value} {r : vw_C} {v : Option Value}
/-- a call whose end is known -/
theorem ap_callV (hL : KV T.1 index y) (hK : KO y Tc.2.1 Tc.2.2.1 Tc.2.2.2.1 na) (hM : AMet Tc y [Cond.code y Tc.2.1 Tc.2.2.1 Tc.2.2.2.1] (.ref i :: as) h n (PD (.inl v) h2 n)) (hd : decode T.2.1 pc = .ok (.invokevirtual index, 3)) (he : h i = .inr (ci, fs)) (hi : i < n) (hcl : vwCl[ci]? = some r) (hr1 : r.1 = y.cls) (hst : sk = as.reverse ++ .ref i :: st) (hna9 : as.length = na) (hw : (st.map fun v => v.category).sum ≤ 8) (hR : RmOk T Tc ce sl)
    (kk : AW T Q CX (pc + 3) lo (v.toList ++ st) h2 n (ce + Tc.2.2.2.2.1.cells) (sl + Tc.2.2.2.2.1.slots)) : AW T Q CX pc lo sk h n ce sl :=
  aw_callV hL hK hM hd he hi hcl hr1 hst hna9 hw hR pd_nx pd_na (fun v' h' q => by
    obtain ⟨q1, q2, -⟩ := q
    cases q1; subst q2; exact kk)
theorem ap_callS (hL : KS T.1 index y) (hK : KO y Tc.2.1 Tc.2.2.1 Tc.2.2.2.1 na) (hM : AMet Tc y [Cond.code y Tc.2.1 Tc.2.2.1 Tc.2.2.2.1] as h n (PD (.inl v) h2 n)) (hd : decode T.2.1 pc = .ok (.invokestatic index, 3)) (hst : sk = as.reverse ++ st) (hna9 : as.length = na) (hw : (st.map fun v => v.category).sum ≤ 8) (hR : RmOk T Tc ce sl)
    (kk : AW T Q CX (pc + 3) lo (v.toList ++ st) h2 n (ce + Tc.2.2.2.2.1.cells) (sl + Tc.2.2.2.2.1.slots)) : AW T Q CX pc lo sk h n ce sl :=
  aw_callS hL hK hM hd hst hna9 hw hR pd_nx pd_na (fun v' h' q => by
    obtain ⟨q1, q2, -⟩ := q
    cases q1; subst q2; exact kk)
theorem ap_callVi {w : Int32} (hL : KV T.1 index y) (hK : KO y Tc.2.1 Tc.2.2.1 Tc.2.2.2.1 na) (hM : AMet Tc y [Cond.code y Tc.2.1 Tc.2.2.1 Tc.2.2.2.1] (.ref i :: as) h n (PD (.inl (some (.int w))) h2 n)) (hd : decode T.2.1 pc = .ok (.invokevirtual index, 3)) (he : h i = .inr (ci, fs)) (hi : i < n) (hcl : vwCl[ci]? = some r) (hr1 : r.1 = y.cls) (hst : sk = as.reverse ++ .ref i :: st) (hna9 : as.length = na) (hw : (st.map fun v => v.category).sum ≤ 8) (hR : RmOk T Tc ce sl)
    (kk : AW T Q CX (pc + 3) lo (.int w :: st) h2 n (ce + Tc.2.2.2.2.1.cells) (sl + Tc.2.2.2.2.1.slots)) : AW T Q CX pc lo sk h n ce sl := ap_callV hL hK hM hd he hi hcl hr1 hst hna9 hw hR kk
theorem ap_callVl {w : Int64} (hL : KV T.1 index y) (hK : KO y Tc.2.1 Tc.2.2.1 Tc.2.2.2.1 na) (hM : AMet Tc y [Cond.code y Tc.2.1 Tc.2.2.1 Tc.2.2.2.1] (.ref i :: as) h n (PD (.inl (some (.long w))) h2 n)) (hd : decode T.2.1 pc = .ok (.invokevirtual index, 3)) (he : h i = .inr (ci, fs)) (hi : i < n) (hcl : vwCl[ci]? = some r) (hr1 : r.1 = y.cls) (hst : sk = as.reverse ++ .ref i :: st) (hna9 : as.length = na) (hw : (st.map fun v => v.category).sum ≤ 8) (hR : RmOk T Tc ce sl)
    (kk : AW T Q CX (pc + 3) lo (.long w :: st) h2 n (ce + Tc.2.2.2.2.1.cells) (sl + Tc.2.2.2.2.1.slots)) : AW T Q CX pc lo sk h n ce sl := ap_callV hL hK hM hd he hi hcl hr1 hst hna9 hw hR kk
theorem ap_callVv (hL : KV T.1 index y) (hK : KO y Tc.2.1 Tc.2.2.1 Tc.2.2.2.1 na) (hM : AMet Tc y [Cond.code y Tc.2.1 Tc.2.2.1 Tc.2.2.2.1] (.ref i :: as) h n (PD (.inl none) h2 n)) (hd : decode T.2.1 pc = .ok (.invokevirtual index, 3)) (he : h i = .inr (ci, fs)) (hi : i < n) (hcl : vwCl[ci]? = some r) (hr1 : r.1 = y.cls) (hst : sk = as.reverse ++ .ref i :: st) (hna9 : as.length = na) (hw : (st.map fun v => v.category).sum ≤ 8) (hR : RmOk T Tc ce sl)
    (kk : AW T Q CX (pc + 3) lo st h2 n (ce + Tc.2.2.2.2.1.cells) (sl + Tc.2.2.2.2.1.slots)) : AW T Q CX pc lo sk h n ce sl := ap_callV hL hK hM hd he hi hcl hr1 hst hna9 hw hR kk
theorem ap_callSi {w : Int32} (hL : KS T.1 index y) (hK : KO y Tc.2.1 Tc.2.2.1 Tc.2.2.2.1 na) (hM : AMet Tc y [Cond.code y Tc.2.1 Tc.2.2.1 Tc.2.2.2.1] as h n (PD (.inl (some (.int w))) h2 n)) (hd : decode T.2.1 pc = .ok (.invokestatic index, 3)) (hst : sk = as.reverse ++ st) (hna9 : as.length = na) (hw : (st.map fun v => v.category).sum ≤ 8) (hR : RmOk T Tc ce sl)
    (kk : AW T Q CX (pc + 3) lo (.int w :: st) h2 n (ce + Tc.2.2.2.2.1.cells) (sl + Tc.2.2.2.2.1.slots)) : AW T Q CX pc lo sk h n ce sl := ap_callS hL hK hM hd hst hna9 hw hR kk
theorem ap_callSv (hL : KS T.1 index y) (hK : KO y Tc.2.1 Tc.2.2.1 Tc.2.2.2.1 na) (hM : AMet Tc y [Cond.code y Tc.2.1 Tc.2.2.1 Tc.2.2.2.1] as h n (PD (.inl none) h2 n)) (hd : decode T.2.1 pc = .ok (.invokestatic index, 3)) (hst : sk = as.reverse ++ st) (hna9 : as.length = na) (hw : (st.map fun v => v.category).sum ≤ 8) (hR : RmOk T Tc ce sl)
    (kk : AW T Q CX (pc + 3) lo st h2 n (ce + Tc.2.2.2.2.1.cells) (sl + Tc.2.2.2.2.1.slots)) : AW T Q CX pc lo sk h n ce sl := ap_callS hL hK hM hd hst hna9 hw hR kk
theorem am_of {Po : APost} {av : List Value} (hy : plainName y.cls = true) (hyn : y.cls = T.1) (hini : T.2.2.2.2.2 = true → y.name = "<init>") (hlen : Nat.ble av.length T.2.2.1 = true) (hcat : av.all (fun v => v.category == 1) = true) (hlo : av.map some ++ List.replicate (T.2.2.1 - av.length) none = lo) (body : AW T (AQm T Po) C0 0 lo [] h n 0 0) : AMet T y [Cond.code y T.2.1 T.2.2.1 T.2.2.2.1] av h n Po :=
  amet_of hy hyn hini (Nat.le_of_ble_eq_true hlen) (fun v hv => by have := List.all_eq_true.mp hcat v hv; simpa using this) hlo body
end Prows
theorem ble' {a b : Nat} (h : Nat.ble a b = true) : a ≤ b := Nat.le_of_ble_eq_true h
theorem blt' {a b : Nat} (h : Nat.ble (a + 1) b = true) : a < b := Nat.le_of_ble_eq_true h
