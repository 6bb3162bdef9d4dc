theorem vw_8_3 {M : Nat → Nat → Int32} {b j : Nat} {x : Int32} (hb : b < 4) (hj : j < 3) : V (w64 M (8 + 3 * b + j) x) 3 = if j = 0 then upd (V M 3) b x else V M 3 := by
  funext k
  show (if k < 4 then w64 M (8 + 3 * b + j) x 64 (8 + 3 * k + 0) else 0) = _
  by_cases hj0 : j = 0
  · rw [if_pos hj0]; subst hj0
    by_cases hk : k = b
    · subst hk; rw [if_pos hb, w64_s]; exact upd_s.symm
    · rw [upd_n hk]
      show _ = (if k < 4 then M 64 (8 + 3 * k + 0) else 0)
      split
      · exact w64_at (by omega)
      · rfl
  · rw [if_neg hj0]
    show _ = (if k < 4 then M 64 (8 + 3 * k + 0) else 0)
    split
    · exact w64_at (by omega)
    · rfl
theorem vw_8_4 {M : Nat → Nat → Int32} {b j : Nat} {x : Int32} (hb : b < 4) (hj : j < 3) : V (w64 M (8 + 3 * b + j) x) 4 = if j = 1 then upd (V M 4) b x else V M 4 := by
  funext k
  show (if k < 4 then w64 M (8 + 3 * b + j) x 64 (8 + 3 * k + 1) else 0) = _
  by_cases hj0 : j = 1
  · rw [if_pos hj0]; subst hj0
    by_cases hk : k = b
    · subst hk; rw [if_pos hb, w64_s]; exact upd_s.symm
    · rw [upd_n hk]
      show _ = (if k < 4 then M 64 (8 + 3 * k + 1) else 0)
      split
      · exact w64_at (by omega)
      · rfl
  · rw [if_neg hj0]
    show _ = (if k < 4 then M 64 (8 + 3 * k + 1) else 0)
    split
    · exact w64_at (by omega)
    · rfl
theorem vw_8_5 {M : Nat → Nat → Int32} {b j : Nat} {x : Int32} (hb : b < 4) (hj : j < 3) : V (w64 M (8 + 3 * b + j) x) 5 = if j = 2 then upd (V M 5) b x else V M 5 := by
  funext k
  show (if k < 4 then w64 M (8 + 3 * b + j) x 64 (8 + 3 * k + 2) else 0) = _
  by_cases hj0 : j = 2
  · rw [if_pos hj0]; subst hj0
    by_cases hk : k = b
    · subst hk; rw [if_pos hb, w64_s]; exact upd_s.symm
    · rw [upd_n hk]
      show _ = (if k < 4 then M 64 (8 + 3 * k + 2) else 0)
      split
      · exact w64_at (by omega)
      · rfl
  · rw [if_neg hj0]
    show _ = (if k < 4 then M 64 (8 + 3 * k + 2) else 0)
    split
    · exact w64_at (by omega)
    · rfl
theorem vw_8_7 {M : Nat → Nat → Int32} {b j : Nat} {x : Int32} (hb : b < 4) (hj : j < 3) : V (w64 M (8 + 3 * b + j) x) 7 = V M 7 := by
  funext k
  show (if k < 16 then w64 M (8 + 3 * b + j) x 64 (20 + 2 * k + 0) else 0) = (if k < 16 then M 64 (20 + 2 * k + 0) else 0)
  split
  · exact w64_at (by omega)
  · rfl
theorem vw_8_8 {M : Nat → Nat → Int32} {b j : Nat} {x : Int32} (hb : b < 4) (hj : j < 3) : V (w64 M (8 + 3 * b + j) x) 8 = V M 8 := by
  funext k
  show (if k < 16 then w64 M (8 + 3 * b + j) x 64 (20 + 2 * k + 1) else 0) = (if k < 16 then M 64 (20 + 2 * k + 1) else 0)
  split
  · exact w64_at (by omega)
  · rfl
theorem vw_8_10 {M : Nat → Nat → Int32} {b j : Nat} {x : Int32} (hb : b < 4) (hj : j < 3) : V (w64 M (8 + 3 * b + j) x) 10 = V M 10 := by
  funext k
  show (if k < 12 then w64 M (8 + 3 * b + j) x 64 (52 + 5 * k + 0) else 0) = (if k < 12 then M 64 (52 + 5 * k + 0) else 0)
  split
  · exact w64_at (by omega)
  · rfl
theorem vw_8_11 {M : Nat → Nat → Int32} {b j : Nat} {x : Int32} (hb : b < 4) (hj : j < 3) : V (w64 M (8 + 3 * b + j) x) 11 = V M 11 := by
  funext k
  show (if k < 12 then w64 M (8 + 3 * b + j) x 64 (52 + 5 * k + 1) else 0) = (if k < 12 then M 64 (52 + 5 * k + 1) else 0)
  split
  · exact w64_at (by omega)
  · rfl
theorem vw_8_12 {M : Nat → Nat → Int32} {b j : Nat} {x : Int32} (hb : b < 4) (hj : j < 3) : V (w64 M (8 + 3 * b + j) x) 12 = V M 12 := by
  funext k
  show (if k < 12 then w64 M (8 + 3 * b + j) x 64 (52 + 5 * k + 2) else 0) = (if k < 12 then M 64 (52 + 5 * k + 2) else 0)
  split
  · exact w64_at (by omega)
  · rfl
theorem vw_8_13 {M : Nat → Nat → Int32} {b j : Nat} {x : Int32} (hb : b < 4) (hj : j < 3) : V (w64 M (8 + 3 * b + j) x) 13 = V M 13 := by
  funext k
  show (if k < 12 then w64 M (8 + 3 * b + j) x 64 (52 + 5 * k + 3) else 0) = (if k < 12 then M 64 (52 + 5 * k + 3) else 0)
  split
  · exact w64_at (by omega)
  · rfl
theorem vw_8_14 {M : Nat → Nat → Int32} {b j : Nat} {x : Int32} (hb : b < 4) (hj : j < 3) : V (w64 M (8 + 3 * b + j) x) 14 = V M 14 := by
  funext k
  show (if k < 12 then w64 M (8 + 3 * b + j) x 64 (52 + 5 * k + 4) else 0) = (if k < 12 then M 64 (52 + 5 * k + 4) else 0)
  split
  · exact w64_at (by omega)
  · rfl
theorem vw_8_16 {M : Nat → Nat → Int32} {b j : Nat} {x : Int32} (hb : b < 4) (hj : j < 3) : V (w64 M (8 + 3 * b + j) x) 16 = V M 16 := by
  funext k
  show (if k < 60 then w64 M (8 + 3 * b + j) x 64 (112 + 6 * k + 0) else 0) = (if k < 60 then M 64 (112 + 6 * k + 0) else 0)
  split
  · exact w64_at (by omega)
  · rfl
theorem vw_8_17 {M : Nat → Nat → Int32} {b j : Nat} {x : Int32} (hb : b < 4) (hj : j < 3) : V (w64 M (8 + 3 * b + j) x) 17 = V M 17 := by
  funext k
  show (if k < 60 then w64 M (8 + 3 * b + j) x 64 (112 + 6 * k + 1) else 0) = (if k < 60 then M 64 (112 + 6 * k + 1) else 0)
  split
  · exact w64_at (by omega)
  · rfl
theorem vw_8_18 {M : Nat → Nat → Int32} {b j : Nat} {x : Int32} (hb : b < 4) (hj : j < 3) : V (w64 M (8 + 3 * b + j) x) 18 = V M 18 := by
  funext k
  show (if k < 60 then w64 M (8 + 3 * b + j) x 64 (112 + 6 * k + 2) else 0) = (if k < 60 then M 64 (112 + 6 * k + 2) else 0)
  split
  · exact w64_at (by omega)
  · rfl
theorem vw_8_19 {M : Nat → Nat → Int32} {b j : Nat} {x : Int32} (hb : b < 4) (hj : j < 3) : V (w64 M (8 + 3 * b + j) x) 19 = V M 19 := by
  funext k
  show (if k < 60 then w64 M (8 + 3 * b + j) x 64 (112 + 6 * k + 3) else 0) = (if k < 60 then M 64 (112 + 6 * k + 3) else 0)
  split
  · exact w64_at (by omega)
  · rfl
theorem vw_8_20 {M : Nat → Nat → Int32} {b j : Nat} {x : Int32} (hb : b < 4) (hj : j < 3) : V (w64 M (8 + 3 * b + j) x) 20 = V M 20 := by
  funext k
  show (if k < 60 then w64 M (8 + 3 * b + j) x 64 (112 + 6 * k + 4) else 0) = (if k < 60 then M 64 (112 + 6 * k + 4) else 0)
  split
  · exact w64_at (by omega)
  · rfl
theorem vw_8_21 {M : Nat → Nat → Int32} {b j : Nat} {x : Int32} (hb : b < 4) (hj : j < 3) : V (w64 M (8 + 3 * b + j) x) 21 = V M 21 := by
  funext k
  show (if k < 60 then w64 M (8 + 3 * b + j) x 64 (112 + 6 * k + 5) else 0) = (if k < 60 then M 64 (112 + 6 * k + 5) else 0)
  split
  · exact w64_at (by omega)
  · rfl
theorem vw_8_23 {M : Nat → Nat → Int32} {b j : Nat} {x : Int32} (hb : b < 4) (hj : j < 3) : V (w64 M (8 + 3 * b + j) x) 23 = V M 23 := by
  funext k
  show (if k < 20 then w64 M (8 + 3 * b + j) x 64 (472 + 5 * k + 0) else 0) = (if k < 20 then M 64 (472 + 5 * k + 0) else 0)
  split
  · exact w64_at (by omega)
  · rfl
theorem vw_8_24 {M : Nat → Nat → Int32} {b j : Nat} {x : Int32} (hb : b < 4) (hj : j < 3) : V (w64 M (8 + 3 * b + j) x) 24 = V M 24 := by
  funext k
  show (if k < 20 then w64 M (8 + 3 * b + j) x 64 (472 + 5 * k + 1) else 0) = (if k < 20 then M 64 (472 + 5 * k + 1) else 0)
  split
  · exact w64_at (by omega)
  · rfl
theorem vw_8_25 {M : Nat → Nat → Int32} {b j : Nat} {x : Int32} (hb : b < 4) (hj : j < 3) : V (w64 M (8 + 3 * b + j) x) 25 = V M 25 := by
  funext k
  show (if k < 20 then w64 M (8 + 3 * b + j) x 64 (472 + 5 * k + 2) else 0) = (if k < 20 then M 64 (472 + 5 * k + 2) else 0)
  split
  · exact w64_at (by omega)
  · rfl
theorem vw_8_26 {M : Nat → Nat → Int32} {b j : Nat} {x : Int32} (hb : b < 4) (hj : j < 3) : V (w64 M (8 + 3 * b + j) x) 26 = V M 26 := by
  funext k
  show (if k < 20 then w64 M (8 + 3 * b + j) x 64 (472 + 5 * k + 3) else 0) = (if k < 20 then M 64 (472 + 5 * k + 3) else 0)
  split
  · exact w64_at (by omega)
  · rfl
theorem vw_8_27 {M : Nat → Nat → Int32} {b j : Nat} {x : Int32} (hb : b < 4) (hj : j < 3) : V (w64 M (8 + 3 * b + j) x) 27 = V M 27 := by
  funext k
  show (if k < 20 then w64 M (8 + 3 * b + j) x 64 (472 + 5 * k + 4) else 0) = (if k < 20 then M 64 (472 + 5 * k + 4) else 0)
  split
  · exact w64_at (by omega)
  · rfl
theorem vw_20_3 {M : Nat → Nat → Int32} {b j : Nat} {x : Int32} (hb : b < 16) (hj : j < 2) : V (w64 M (20 + 2 * b + j) x) 3 = V M 3 := by
  funext k
  show (if k < 4 then w64 M (20 + 2 * b + j) x 64 (8 + 3 * k + 0) else 0) = (if k < 4 then M 64 (8 + 3 * k + 0) else 0)
  split
  · exact w64_at (by omega)
  · rfl
theorem vw_20_4 {M : Nat → Nat → Int32} {b j : Nat} {x : Int32} (hb : b < 16) (hj : j < 2) : V (w64 M (20 + 2 * b + j) x) 4 = V M 4 := by
  funext k
  show (if k < 4 then w64 M (20 + 2 * b + j) x 64 (8 + 3 * k + 1) else 0) = (if k < 4 then M 64 (8 + 3 * k + 1) else 0)
  split
  · exact w64_at (by omega)
  · rfl
theorem vw_20_5 {M : Nat → Nat → Int32} {b j : Nat} {x : Int32} (hb : b < 16) (hj : j < 2) : V (w64 M (20 + 2 * b + j) x) 5 = V M 5 := by
  funext k
  show (if k < 4 then w64 M (20 + 2 * b + j) x 64 (8 + 3 * k + 2) else 0) = (if k < 4 then M 64 (8 + 3 * k + 2) else 0)
  split
  · exact w64_at (by omega)
  · rfl
theorem vw_20_7 {M : Nat → Nat → Int32} {b j : Nat} {x : Int32} (hb : b < 16) (hj : j < 2) : V (w64 M (20 + 2 * b + j) x) 7 = if j = 0 then upd (V M 7) b x else V M 7 := by
  funext k
  show (if k < 16 then w64 M (20 + 2 * b + j) x 64 (20 + 2 * k + 0) else 0) = _
  by_cases hj0 : j = 0
  · rw [if_pos hj0]; subst hj0
    by_cases hk : k = b
    · subst hk; rw [if_pos hb, w64_s]; exact upd_s.symm
    · rw [upd_n hk]
      show _ = (if k < 16 then M 64 (20 + 2 * k + 0) else 0)
      split
      · exact w64_at (by omega)
      · rfl
  · rw [if_neg hj0]
    show _ = (if k < 16 then M 64 (20 + 2 * k + 0) else 0)
    split
    · exact w64_at (by omega)
    · rfl
theorem vw_20_8 {M : Nat → Nat → Int32} {b j : Nat} {x : Int32} (hb : b < 16) (hj : j < 2) : V (w64 M (20 + 2 * b + j) x) 8 = if j = 1 then upd (V M 8) b x else V M 8 := by
  funext k
  show (if k < 16 then w64 M (20 + 2 * b + j) x 64 (20 + 2 * k + 1) else 0) = _
  by_cases hj0 : j = 1
  · rw [if_pos hj0]; subst hj0
    by_cases hk : k = b
    · subst hk; rw [if_pos hb, w64_s]; exact upd_s.symm
    · rw [upd_n hk]
      show _ = (if k < 16 then M 64 (20 + 2 * k + 1) else 0)
      split
      · exact w64_at (by omega)
      · rfl
  · rw [if_neg hj0]
    show _ = (if k < 16 then M 64 (20 + 2 * k + 1) else 0)
    split
    · exact w64_at (by omega)
    · rfl
theorem vw_20_10 {M : Nat → Nat → Int32} {b j : Nat} {x : Int32} (hb : b < 16) (hj : j < 2) : V (w64 M (20 + 2 * b + j) x) 10 = V M 10 := by
  funext k
  show (if k < 12 then w64 M (20 + 2 * b + j) x 64 (52 + 5 * k + 0) else 0) = (if k < 12 then M 64 (52 + 5 * k + 0) else 0)
  split
  · exact w64_at (by omega)
  · rfl
theorem vw_20_11 {M : Nat → Nat → Int32} {b j : Nat} {x : Int32} (hb : b < 16) (hj : j < 2) : V (w64 M (20 + 2 * b + j) x) 11 = V M 11 := by
  funext k
  show (if k < 12 then w64 M (20 + 2 * b + j) x 64 (52 + 5 * k + 1) else 0) = (if k < 12 then M 64 (52 + 5 * k + 1) else 0)
  split
  · exact w64_at (by omega)
  · rfl
theorem vw_20_12 {M : Nat → Nat → Int32} {b j : Nat} {x : Int32} (hb : b < 16) (hj : j < 2) : V (w64 M (20 + 2 * b + j) x) 12 = V M 12 := by
  funext k
  show (if k < 12 then w64 M (20 + 2 * b + j) x 64 (52 + 5 * k + 2) else 0) = (if k < 12 then M 64 (52 + 5 * k + 2) else 0)
  split
  · exact w64_at (by omega)
  · rfl
theorem vw_20_13 {M : Nat → Nat → Int32} {b j : Nat} {x : Int32} (hb : b < 16) (hj : j < 2) : V (w64 M (20 + 2 * b + j) x) 13 = V M 13 := by
  funext k
  show (if k < 12 then w64 M (20 + 2 * b + j) x 64 (52 + 5 * k + 3) else 0) = (if k < 12 then M 64 (52 + 5 * k + 3) else 0)
  split
  · exact w64_at (by omega)
  · rfl
theorem vw_20_14 {M : Nat → Nat → Int32} {b j : Nat} {x : Int32} (hb : b < 16) (hj : j < 2) : V (w64 M (20 + 2 * b + j) x) 14 = V M 14 := by
  funext k
  show (if k < 12 then w64 M (20 + 2 * b + j) x 64 (52 + 5 * k + 4) else 0) = (if k < 12 then M 64 (52 + 5 * k + 4) else 0)
  split
  · exact w64_at (by omega)
  · rfl
theorem vw_20_16 {M : Nat → Nat → Int32} {b j : Nat} {x : Int32} (hb : b < 16) (hj : j < 2) : V (w64 M (20 + 2 * b + j) x) 16 = V M 16 := by
  funext k
  show (if k < 60 then w64 M (20 + 2 * b + j) x 64 (112 + 6 * k + 0) else 0) = (if k < 60 then M 64 (112 + 6 * k + 0) else 0)
  split
  · exact w64_at (by omega)
  · rfl
theorem vw_20_17 {M : Nat → Nat → Int32} {b j : Nat} {x : Int32} (hb : b < 16) (hj : j < 2) : V (w64 M (20 + 2 * b + j) x) 17 = V M 17 := by
  funext k
  show (if k < 60 then w64 M (20 + 2 * b + j) x 64 (112 + 6 * k + 1) else 0) = (if k < 60 then M 64 (112 + 6 * k + 1) else 0)
  split
  · exact w64_at (by omega)
  · rfl
theorem vw_20_18 {M : Nat → Nat → Int32} {b j : Nat} {x : Int32} (hb : b < 16) (hj : j < 2) : V (w64 M (20 + 2 * b + j) x) 18 = V M 18 := by
  funext k
  show (if k < 60 then w64 M (20 + 2 * b + j) x 64 (112 + 6 * k + 2) else 0) = (if k < 60 then M 64 (112 + 6 * k + 2) else 0)
  split
  · exact w64_at (by omega)
  · rfl
theorem vw_20_19 {M : Nat → Nat → Int32} {b j : Nat} {x : Int32} (hb : b < 16) (hj : j < 2) : V (w64 M (20 + 2 * b + j) x) 19 = V M 19 := by
  funext k
  show (if k < 60 then w64 M (20 + 2 * b + j) x 64 (112 + 6 * k + 3) else 0) = (if k < 60 then M 64 (112 + 6 * k + 3) else 0)
  split
  · exact w64_at (by omega)
  · rfl
theorem vw_20_20 {M : Nat → Nat → Int32} {b j : Nat} {x : Int32} (hb : b < 16) (hj : j < 2) : V (w64 M (20 + 2 * b + j) x) 20 = V M 20 := by
  funext k
  show (if k < 60 then w64 M (20 + 2 * b + j) x 64 (112 + 6 * k + 4) else 0) = (if k < 60 then M 64 (112 + 6 * k + 4) else 0)
  split
  · exact w64_at (by omega)
  · rfl
theorem vw_20_21 {M : Nat → Nat → Int32} {b j : Nat} {x : Int32} (hb : b < 16) (hj : j < 2) : V (w64 M (20 + 2 * b + j) x) 21 = V M 21 := by
  funext k
  show (if k < 60 then w64 M (20 + 2 * b + j) x 64 (112 + 6 * k + 5) else 0) = (if k < 60 then M 64 (112 + 6 * k + 5) else 0)
  split
  · exact w64_at (by omega)
  · rfl
theorem vw_20_23 {M : Nat → Nat → Int32} {b j : Nat} {x : Int32} (hb : b < 16) (hj : j < 2) : V (w64 M (20 + 2 * b + j) x) 23 = V M 23 := by
  funext k
  show (if k < 20 then w64 M (20 + 2 * b + j) x 64 (472 + 5 * k + 0) else 0) = (if k < 20 then M 64 (472 + 5 * k + 0) else 0)
  split
  · exact w64_at (by omega)
  · rfl
theorem vw_20_24 {M : Nat → Nat → Int32} {b j : Nat} {x : Int32} (hb : b < 16) (hj : j < 2) : V (w64 M (20 + 2 * b + j) x) 24 = V M 24 := by
  funext k
  show (if k < 20 then w64 M (20 + 2 * b + j) x 64 (472 + 5 * k + 1) else 0) = (if k < 20 then M 64 (472 + 5 * k + 1) else 0)
  split
  · exact w64_at (by omega)
  · rfl
theorem vw_20_25 {M : Nat → Nat → Int32} {b j : Nat} {x : Int32} (hb : b < 16) (hj : j < 2) : V (w64 M (20 + 2 * b + j) x) 25 = V M 25 := by
  funext k
  show (if k < 20 then w64 M (20 + 2 * b + j) x 64 (472 + 5 * k + 2) else 0) = (if k < 20 then M 64 (472 + 5 * k + 2) else 0)
  split
  · exact w64_at (by omega)
  · rfl
theorem vw_20_26 {M : Nat → Nat → Int32} {b j : Nat} {x : Int32} (hb : b < 16) (hj : j < 2) : V (w64 M (20 + 2 * b + j) x) 26 = V M 26 := by
  funext k
  show (if k < 20 then w64 M (20 + 2 * b + j) x 64 (472 + 5 * k + 3) else 0) = (if k < 20 then M 64 (472 + 5 * k + 3) else 0)
  split
  · exact w64_at (by omega)
  · rfl
theorem vw_20_27 {M : Nat → Nat → Int32} {b j : Nat} {x : Int32} (hb : b < 16) (hj : j < 2) : V (w64 M (20 + 2 * b + j) x) 27 = V M 27 := by
  funext k
  show (if k < 20 then w64 M (20 + 2 * b + j) x 64 (472 + 5 * k + 4) else 0) = (if k < 20 then M 64 (472 + 5 * k + 4) else 0)
  split
  · exact w64_at (by omega)
  · rfl
theorem vw_52_3 {M : Nat → Nat → Int32} {b j : Nat} {x : Int32} (hb : b < 12) (hj : j < 5) : V (w64 M (52 + 5 * b + j) x) 3 = V M 3 := by
  funext k
  show (if k < 4 then w64 M (52 + 5 * b + j) x 64 (8 + 3 * k + 0) else 0) = (if k < 4 then M 64 (8 + 3 * k + 0) else 0)
  split
  · exact w64_at (by omega)
  · rfl
theorem vw_52_4 {M : Nat → Nat → Int32} {b j : Nat} {x : Int32} (hb : b < 12) (hj : j < 5) : V (w64 M (52 + 5 * b + j) x) 4 = V M 4 := by
  funext k
  show (if k < 4 then w64 M (52 + 5 * b + j) x 64 (8 + 3 * k + 1) else 0) = (if k < 4 then M 64 (8 + 3 * k + 1) else 0)
  split
  · exact w64_at (by omega)
  · rfl
theorem vw_52_5 {M : Nat → Nat → Int32} {b j : Nat} {x : Int32} (hb : b < 12) (hj : j < 5) : V (w64 M (52 + 5 * b + j) x) 5 = V M 5 := by
  funext k
  show (if k < 4 then w64 M (52 + 5 * b + j) x 64 (8 + 3 * k + 2) else 0) = (if k < 4 then M 64 (8 + 3 * k + 2) else 0)
  split
  · exact w64_at (by omega)
  · rfl
theorem vw_52_7 {M : Nat → Nat → Int32} {b j : Nat} {x : Int32} (hb : b < 12) (hj : j < 5) : V (w64 M (52 + 5 * b + j) x) 7 = V M 7 := by
  funext k
  show (if k < 16 then w64 M (52 + 5 * b + j) x 64 (20 + 2 * k + 0) else 0) = (if k < 16 then M 64 (20 + 2 * k + 0) else 0)
  split
  · exact w64_at (by omega)
  · rfl
theorem vw_52_8 {M : Nat → Nat → Int32} {b j : Nat} {x : Int32} (hb : b < 12) (hj : j < 5) : V (w64 M (52 + 5 * b + j) x) 8 = V M 8 := by
  funext k
  show (if k < 16 then w64 M (52 + 5 * b + j) x 64 (20 + 2 * k + 1) else 0) = (if k < 16 then M 64 (20 + 2 * k + 1) else 0)
  split
  · exact w64_at (by omega)
  · rfl
theorem vw_52_10 {M : Nat → Nat → Int32} {b j : Nat} {x : Int32} (hb : b < 12) (hj : j < 5) : V (w64 M (52 + 5 * b + j) x) 10 = if j = 0 then upd (V M 10) b x else V M 10 := by
  funext k
  show (if k < 12 then w64 M (52 + 5 * b + j) x 64 (52 + 5 * k + 0) else 0) = _
  by_cases hj0 : j = 0
  · rw [if_pos hj0]; subst hj0
    by_cases hk : k = b
    · subst hk; rw [if_pos hb, w64_s]; exact upd_s.symm
    · rw [upd_n hk]
      show _ = (if k < 12 then M 64 (52 + 5 * k + 0) else 0)
      split
      · exact w64_at (by omega)
      · rfl
  · rw [if_neg hj0]
    show _ = (if k < 12 then M 64 (52 + 5 * k + 0) else 0)
    split
    · exact w64_at (by omega)
    · rfl
theorem vw_52_11 {M : Nat → Nat → Int32} {b j : Nat} {x : Int32} (hb : b < 12) (hj : j < 5) : V (w64 M (52 + 5 * b + j) x) 11 = if j = 1 then upd (V M 11) b x else V M 11 := by
  funext k
  show (if k < 12 then w64 M (52 + 5 * b + j) x 64 (52 + 5 * k + 1) else 0) = _
  by_cases hj0 : j = 1
  · rw [if_pos hj0]; subst hj0
    by_cases hk : k = b
    · subst hk; rw [if_pos hb, w64_s]; exact upd_s.symm
    · rw [upd_n hk]
      show _ = (if k < 12 then M 64 (52 + 5 * k + 1) else 0)
      split
      · exact w64_at (by omega)
      · rfl
  · rw [if_neg hj0]
    show _ = (if k < 12 then M 64 (52 + 5 * k + 1) else 0)
    split
    · exact w64_at (by omega)
    · rfl
theorem vw_52_12 {M : Nat → Nat → Int32} {b j : Nat} {x : Int32} (hb : b < 12) (hj : j < 5) : V (w64 M (52 + 5 * b + j) x) 12 = if j = 2 then upd (V M 12) b x else V M 12 := by
  funext k
  show (if k < 12 then w64 M (52 + 5 * b + j) x 64 (52 + 5 * k + 2) else 0) = _
  by_cases hj0 : j = 2
  · rw [if_pos hj0]; subst hj0
    by_cases hk : k = b
    · subst hk; rw [if_pos hb, w64_s]; exact upd_s.symm
    · rw [upd_n hk]
      show _ = (if k < 12 then M 64 (52 + 5 * k + 2) else 0)
      split
      · exact w64_at (by omega)
      · rfl
  · rw [if_neg hj0]
    show _ = (if k < 12 then M 64 (52 + 5 * k + 2) else 0)
    split
    · exact w64_at (by omega)
    · rfl
theorem vw_52_13 {M : Nat → Nat → Int32} {b j : Nat} {x : Int32} (hb : b < 12) (hj : j < 5) : V (w64 M (52 + 5 * b + j) x) 13 = if j = 3 then upd (V M 13) b x else V M 13 := by
  funext k
  show (if k < 12 then w64 M (52 + 5 * b + j) x 64 (52 + 5 * k + 3) else 0) = _
  by_cases hj0 : j = 3
  · rw [if_pos hj0]; subst hj0
    by_cases hk : k = b
    · subst hk; rw [if_pos hb, w64_s]; exact upd_s.symm
    · rw [upd_n hk]
      show _ = (if k < 12 then M 64 (52 + 5 * k + 3) else 0)
      split
      · exact w64_at (by omega)
      · rfl
  · rw [if_neg hj0]
    show _ = (if k < 12 then M 64 (52 + 5 * k + 3) else 0)
    split
    · exact w64_at (by omega)
    · rfl
theorem vw_52_14 {M : Nat → Nat → Int32} {b j : Nat} {x : Int32} (hb : b < 12) (hj : j < 5) : V (w64 M (52 + 5 * b + j) x) 14 = if j = 4 then upd (V M 14) b x else V M 14 := by
  funext k
  show (if k < 12 then w64 M (52 + 5 * b + j) x 64 (52 + 5 * k + 4) else 0) = _
  by_cases hj0 : j = 4
  · rw [if_pos hj0]; subst hj0
    by_cases hk : k = b
    · subst hk; rw [if_pos hb, w64_s]; exact upd_s.symm
    · rw [upd_n hk]
      show _ = (if k < 12 then M 64 (52 + 5 * k + 4) else 0)
      split
      · exact w64_at (by omega)
      · rfl
  · rw [if_neg hj0]
    show _ = (if k < 12 then M 64 (52 + 5 * k + 4) else 0)
    split
    · exact w64_at (by omega)
    · rfl
theorem vw_52_16 {M : Nat → Nat → Int32} {b j : Nat} {x : Int32} (hb : b < 12) (hj : j < 5) : V (w64 M (52 + 5 * b + j) x) 16 = V M 16 := by
  funext k
  show (if k < 60 then w64 M (52 + 5 * b + j) x 64 (112 + 6 * k + 0) else 0) = (if k < 60 then M 64 (112 + 6 * k + 0) else 0)
  split
  · exact w64_at (by omega)
  · rfl
theorem vw_52_17 {M : Nat → Nat → Int32} {b j : Nat} {x : Int32} (hb : b < 12) (hj : j < 5) : V (w64 M (52 + 5 * b + j) x) 17 = V M 17 := by
  funext k
  show (if k < 60 then w64 M (52 + 5 * b + j) x 64 (112 + 6 * k + 1) else 0) = (if k < 60 then M 64 (112 + 6 * k + 1) else 0)
  split
  · exact w64_at (by omega)
  · rfl
theorem vw_52_18 {M : Nat → Nat → Int32} {b j : Nat} {x : Int32} (hb : b < 12) (hj : j < 5) : V (w64 M (52 + 5 * b + j) x) 18 = V M 18 := by
  funext k
  show (if k < 60 then w64 M (52 + 5 * b + j) x 64 (112 + 6 * k + 2) else 0) = (if k < 60 then M 64 (112 + 6 * k + 2) else 0)
  split
  · exact w64_at (by omega)
  · rfl
theorem vw_52_19 {M : Nat → Nat → Int32} {b j : Nat} {x : Int32} (hb : b < 12) (hj : j < 5) : V (w64 M (52 + 5 * b + j) x) 19 = V M 19 := by
  funext k
  show (if k < 60 then w64 M (52 + 5 * b + j) x 64 (112 + 6 * k + 3) else 0) = (if k < 60 then M 64 (112 + 6 * k + 3) else 0)
  split
  · exact w64_at (by omega)
  · rfl
theorem vw_52_20 {M : Nat → Nat → Int32} {b j : Nat} {x : Int32} (hb : b < 12) (hj : j < 5) : V (w64 M (52 + 5 * b + j) x) 20 = V M 20 := by
  funext k
  show (if k < 60 then w64 M (52 + 5 * b + j) x 64 (112 + 6 * k + 4) else 0) = (if k < 60 then M 64 (112 + 6 * k + 4) else 0)
  split
  · exact w64_at (by omega)
  · rfl
theorem vw_52_21 {M : Nat → Nat → Int32} {b j : Nat} {x : Int32} (hb : b < 12) (hj : j < 5) : V (w64 M (52 + 5 * b + j) x) 21 = V M 21 := by
  funext k
  show (if k < 60 then w64 M (52 + 5 * b + j) x 64 (112 + 6 * k + 5) else 0) = (if k < 60 then M 64 (112 + 6 * k + 5) else 0)
  split
  · exact w64_at (by omega)
  · rfl
theorem vw_52_23 {M : Nat → Nat → Int32} {b j : Nat} {x : Int32} (hb : b < 12) (hj : j < 5) : V (w64 M (52 + 5 * b + j) x) 23 = V M 23 := by
  funext k
  show (if k < 20 then w64 M (52 + 5 * b + j) x 64 (472 + 5 * k + 0) else 0) = (if k < 20 then M 64 (472 + 5 * k + 0) else 0)
  split
  · exact w64_at (by omega)
  · rfl
theorem vw_52_24 {M : Nat → Nat → Int32} {b j : Nat} {x : Int32} (hb : b < 12) (hj : j < 5) : V (w64 M (52 + 5 * b + j) x) 24 = V M 24 := by
  funext k
  show (if k < 20 then w64 M (52 + 5 * b + j) x 64 (472 + 5 * k + 1) else 0) = (if k < 20 then M 64 (472 + 5 * k + 1) else 0)
  split
  · exact w64_at (by omega)
  · rfl
theorem vw_52_25 {M : Nat → Nat → Int32} {b j : Nat} {x : Int32} (hb : b < 12) (hj : j < 5) : V (w64 M (52 + 5 * b + j) x) 25 = V M 25 := by
  funext k
  show (if k < 20 then w64 M (52 + 5 * b + j) x 64 (472 + 5 * k + 2) else 0) = (if k < 20 then M 64 (472 + 5 * k + 2) else 0)
  split
  · exact w64_at (by omega)
  · rfl
theorem vw_52_26 {M : Nat → Nat → Int32} {b j : Nat} {x : Int32} (hb : b < 12) (hj : j < 5) : V (w64 M (52 + 5 * b + j) x) 26 = V M 26 := by
  funext k
  show (if k < 20 then w64 M (52 + 5 * b + j) x 64 (472 + 5 * k + 3) else 0) = (if k < 20 then M 64 (472 + 5 * k + 3) else 0)
  split
  · exact w64_at (by omega)
  · rfl
theorem vw_52_27 {M : Nat → Nat → Int32} {b j : Nat} {x : Int32} (hb : b < 12) (hj : j < 5) : V (w64 M (52 + 5 * b + j) x) 27 = V M 27 := by
  funext k
  show (if k < 20 then w64 M (52 + 5 * b + j) x 64 (472 + 5 * k + 4) else 0) = (if k < 20 then M 64 (472 + 5 * k + 4) else 0)
  split
  · exact w64_at (by omega)
  · rfl
theorem vw_112_3 {M : Nat → Nat → Int32} {b j : Nat} {x : Int32} (hb : b < 60) (hj : j < 6) : V (w64 M (112 + 6 * b + j) x) 3 = V M 3 := by
  funext k
  show (if k < 4 then w64 M (112 + 6 * b + j) x 64 (8 + 3 * k + 0) else 0) = (if k < 4 then M 64 (8 + 3 * k + 0) else 0)
  split
  · exact w64_at (by omega)
  · rfl
theorem vw_112_4 {M : Nat → Nat → Int32} {b j : Nat} {x : Int32} (hb : b < 60) (hj : j < 6) : V (w64 M (112 + 6 * b + j) x) 4 = V M 4 := by
  funext k
  show (if k < 4 then w64 M (112 + 6 * b + j) x 64 (8 + 3 * k + 1) else 0) = (if k < 4 then M 64 (8 + 3 * k + 1) else 0)
  split
  · exact w64_at (by omega)
  · rfl
theorem vw_112_5 {M : Nat → Nat → Int32} {b j : Nat} {x : Int32} (hb : b < 60) (hj : j < 6) : V (w64 M (112 + 6 * b + j) x) 5 = V M 5 := by
  funext k
  show (if k < 4 then w64 M (112 + 6 * b + j) x 64 (8 + 3 * k + 2) else 0) = (if k < 4 then M 64 (8 + 3 * k + 2) else 0)
  split
  · exact w64_at (by omega)
  · rfl
theorem vw_112_7 {M : Nat → Nat → Int32} {b j : Nat} {x : Int32} (hb : b < 60) (hj : j < 6) : V (w64 M (112 + 6 * b + j) x) 7 = V M 7 := by
  funext k
  show (if k < 16 then w64 M (112 + 6 * b + j) x 64 (20 + 2 * k + 0) else 0) = (if k < 16 then M 64 (20 + 2 * k + 0) else 0)
  split
  · exact w64_at (by omega)
  · rfl
theorem vw_112_8 {M : Nat → Nat → Int32} {b j : Nat} {x : Int32} (hb : b < 60) (hj : j < 6) : V (w64 M (112 + 6 * b + j) x) 8 = V M 8 := by
  funext k
  show (if k < 16 then w64 M (112 + 6 * b + j) x 64 (20 + 2 * k + 1) else 0) = (if k < 16 then M 64 (20 + 2 * k + 1) else 0)
  split
  · exact w64_at (by omega)
  · rfl
theorem vw_112_10 {M : Nat → Nat → Int32} {b j : Nat} {x : Int32} (hb : b < 60) (hj : j < 6) : V (w64 M (112 + 6 * b + j) x) 10 = V M 10 := by
  funext k
  show (if k < 12 then w64 M (112 + 6 * b + j) x 64 (52 + 5 * k + 0) else 0) = (if k < 12 then M 64 (52 + 5 * k + 0) else 0)
  split
  · exact w64_at (by omega)
  · rfl
theorem vw_112_11 {M : Nat → Nat → Int32} {b j : Nat} {x : Int32} (hb : b < 60) (hj : j < 6) : V (w64 M (112 + 6 * b + j) x) 11 = V M 11 := by
  funext k
  show (if k < 12 then w64 M (112 + 6 * b + j) x 64 (52 + 5 * k + 1) else 0) = (if k < 12 then M 64 (52 + 5 * k + 1) else 0)
  split
  · exact w64_at (by omega)
  · rfl
theorem vw_112_12 {M : Nat → Nat → Int32} {b j : Nat} {x : Int32} (hb : b < 60) (hj : j < 6) : V (w64 M (112 + 6 * b + j) x) 12 = V M 12 := by
  funext k
  show (if k < 12 then w64 M (112 + 6 * b + j) x 64 (52 + 5 * k + 2) else 0) = (if k < 12 then M 64 (52 + 5 * k + 2) else 0)
  split
  · exact w64_at (by omega)
  · rfl
theorem vw_112_13 {M : Nat → Nat → Int32} {b j : Nat} {x : Int32} (hb : b < 60) (hj : j < 6) : V (w64 M (112 + 6 * b + j) x) 13 = V M 13 := by
  funext k
  show (if k < 12 then w64 M (112 + 6 * b + j) x 64 (52 + 5 * k + 3) else 0) = (if k < 12 then M 64 (52 + 5 * k + 3) else 0)
  split
  · exact w64_at (by omega)
  · rfl
theorem vw_112_14 {M : Nat → Nat → Int32} {b j : Nat} {x : Int32} (hb : b < 60) (hj : j < 6) : V (w64 M (112 + 6 * b + j) x) 14 = V M 14 := by
  funext k
  show (if k < 12 then w64 M (112 + 6 * b + j) x 64 (52 + 5 * k + 4) else 0) = (if k < 12 then M 64 (52 + 5 * k + 4) else 0)
  split
  · exact w64_at (by omega)
  · rfl
theorem vw_112_16 {M : Nat → Nat → Int32} {b j : Nat} {x : Int32} (hb : b < 60) (hj : j < 6) : V (w64 M (112 + 6 * b + j) x) 16 = if j = 0 then upd (V M 16) b x else V M 16 := by
  funext k
  show (if k < 60 then w64 M (112 + 6 * b + j) x 64 (112 + 6 * k + 0) else 0) = _
  by_cases hj0 : j = 0
  · rw [if_pos hj0]; subst hj0
    by_cases hk : k = b
    · subst hk; rw [if_pos hb, w64_s]; exact upd_s.symm
    · rw [upd_n hk]
      show _ = (if k < 60 then M 64 (112 + 6 * k + 0) else 0)
      split
      · exact w64_at (by omega)
      · rfl
  · rw [if_neg hj0]
    show _ = (if k < 60 then M 64 (112 + 6 * k + 0) else 0)
    split
    · exact w64_at (by omega)
    · rfl
theorem vw_112_17 {M : Nat → Nat → Int32} {b j : Nat} {x : Int32} (hb : b < 60) (hj : j < 6) : V (w64 M (112 + 6 * b + j) x) 17 = if j = 1 then upd (V M 17) b x else V M 17 := by
  funext k
  show (if k < 60 then w64 M (112 + 6 * b + j) x 64 (112 + 6 * k + 1) else 0) = _
  by_cases hj0 : j = 1
  · rw [if_pos hj0]; subst hj0
    by_cases hk : k = b
    · subst hk; rw [if_pos hb, w64_s]; exact upd_s.symm
    · rw [upd_n hk]
      show _ = (if k < 60 then M 64 (112 + 6 * k + 1) else 0)
      split
      · exact w64_at (by omega)
      · rfl
  · rw [if_neg hj0]
    show _ = (if k < 60 then M 64 (112 + 6 * k + 1) else 0)
    split
    · exact w64_at (by omega)
    · rfl
theorem vw_112_18 {M : Nat → Nat → Int32} {b j : Nat} {x : Int32} (hb : b < 60) (hj : j < 6) : V (w64 M (112 + 6 * b + j) x) 18 = if j = 2 then upd (V M 18) b x else V M 18 := by
  funext k
  show (if k < 60 then w64 M (112 + 6 * b + j) x 64 (112 + 6 * k + 2) else 0) = _
  by_cases hj0 : j = 2
  · rw [if_pos hj0]; subst hj0
    by_cases hk : k = b
    · subst hk; rw [if_pos hb, w64_s]; exact upd_s.symm
    · rw [upd_n hk]
      show _ = (if k < 60 then M 64 (112 + 6 * k + 2) else 0)
      split
      · exact w64_at (by omega)
      · rfl
  · rw [if_neg hj0]
    show _ = (if k < 60 then M 64 (112 + 6 * k + 2) else 0)
    split
    · exact w64_at (by omega)
    · rfl
theorem vw_112_19 {M : Nat → Nat → Int32} {b j : Nat} {x : Int32} (hb : b < 60) (hj : j < 6) : V (w64 M (112 + 6 * b + j) x) 19 = if j = 3 then upd (V M 19) b x else V M 19 := by
  funext k
  show (if k < 60 then w64 M (112 + 6 * b + j) x 64 (112 + 6 * k + 3) else 0) = _
  by_cases hj0 : j = 3
  · rw [if_pos hj0]; subst hj0
    by_cases hk : k = b
    · subst hk; rw [if_pos hb, w64_s]; exact upd_s.symm
    · rw [upd_n hk]
      show _ = (if k < 60 then M 64 (112 + 6 * k + 3) else 0)
      split
      · exact w64_at (by omega)
      · rfl
  · rw [if_neg hj0]
    show _ = (if k < 60 then M 64 (112 + 6 * k + 3) else 0)
    split
    · exact w64_at (by omega)
    · rfl
theorem vw_112_20 {M : Nat → Nat → Int32} {b j : Nat} {x : Int32} (hb : b < 60) (hj : j < 6) : V (w64 M (112 + 6 * b + j) x) 20 = if j = 4 then upd (V M 20) b x else V M 20 := by
  funext k
  show (if k < 60 then w64 M (112 + 6 * b + j) x 64 (112 + 6 * k + 4) else 0) = _
  by_cases hj0 : j = 4
  · rw [if_pos hj0]; subst hj0
    by_cases hk : k = b
    · subst hk; rw [if_pos hb, w64_s]; exact upd_s.symm
    · rw [upd_n hk]
      show _ = (if k < 60 then M 64 (112 + 6 * k + 4) else 0)
      split
      · exact w64_at (by omega)
      · rfl
  · rw [if_neg hj0]
    show _ = (if k < 60 then M 64 (112 + 6 * k + 4) else 0)
    split
    · exact w64_at (by omega)
    · rfl
theorem vw_112_21 {M : Nat → Nat → Int32} {b j : Nat} {x : Int32} (hb : b < 60) (hj : j < 6) : V (w64 M (112 + 6 * b + j) x) 21 = if j = 5 then upd (V M 21) b x else V M 21 := by
  funext k
  show (if k < 60 then w64 M (112 + 6 * b + j) x 64 (112 + 6 * k + 5) else 0) = _
  by_cases hj0 : j = 5
  · rw [if_pos hj0]; subst hj0
    by_cases hk : k = b
    · subst hk; rw [if_pos hb, w64_s]; exact upd_s.symm
    · rw [upd_n hk]
      show _ = (if k < 60 then M 64 (112 + 6 * k + 5) else 0)
      split
      · exact w64_at (by omega)
      · rfl
  · rw [if_neg hj0]
    show _ = (if k < 60 then M 64 (112 + 6 * k + 5) else 0)
    split
    · exact w64_at (by omega)
    · rfl
theorem vw_112_23 {M : Nat → Nat → Int32} {b j : Nat} {x : Int32} (hb : b < 60) (hj : j < 6) : V (w64 M (112 + 6 * b + j) x) 23 = V M 23 := by
  funext k
  show (if k < 20 then w64 M (112 + 6 * b + j) x 64 (472 + 5 * k + 0) else 0) = (if k < 20 then M 64 (472 + 5 * k + 0) else 0)
  split
  · exact w64_at (by omega)
  · rfl
theorem vw_112_24 {M : Nat → Nat → Int32} {b j : Nat} {x : Int32} (hb : b < 60) (hj : j < 6) : V (w64 M (112 + 6 * b + j) x) 24 = V M 24 := by
  funext k
  show (if k < 20 then w64 M (112 + 6 * b + j) x 64 (472 + 5 * k + 1) else 0) = (if k < 20 then M 64 (472 + 5 * k + 1) else 0)
  split
  · exact w64_at (by omega)
  · rfl
theorem vw_112_25 {M : Nat → Nat → Int32} {b j : Nat} {x : Int32} (hb : b < 60) (hj : j < 6) : V (w64 M (112 + 6 * b + j) x) 25 = V M 25 := by
  funext k
  show (if k < 20 then w64 M (112 + 6 * b + j) x 64 (472 + 5 * k + 2) else 0) = (if k < 20 then M 64 (472 + 5 * k + 2) else 0)
  split
  · exact w64_at (by omega)
  · rfl
theorem vw_112_26 {M : Nat → Nat → Int32} {b j : Nat} {x : Int32} (hb : b < 60) (hj : j < 6) : V (w64 M (112 + 6 * b + j) x) 26 = V M 26 := by
  funext k
  show (if k < 20 then w64 M (112 + 6 * b + j) x 64 (472 + 5 * k + 3) else 0) = (if k < 20 then M 64 (472 + 5 * k + 3) else 0)
  split
  · exact w64_at (by omega)
  · rfl
theorem vw_112_27 {M : Nat → Nat → Int32} {b j : Nat} {x : Int32} (hb : b < 60) (hj : j < 6) : V (w64 M (112 + 6 * b + j) x) 27 = V M 27 := by
  funext k
  show (if k < 20 then w64 M (112 + 6 * b + j) x 64 (472 + 5 * k + 4) else 0) = (if k < 20 then M 64 (472 + 5 * k + 4) else 0)
  split
  · exact w64_at (by omega)
  · rfl
theorem vw_472_3 {M : Nat → Nat → Int32} {b j : Nat} {x : Int32} (hb : b < 20) (hj : j < 5) : V (w64 M (472 + 5 * b + j) x) 3 = V M 3 := by
  funext k
  show (if k < 4 then w64 M (472 + 5 * b + j) x 64 (8 + 3 * k + 0) else 0) = (if k < 4 then M 64 (8 + 3 * k + 0) else 0)
  split
  · exact w64_at (by omega)
  · rfl
theorem vw_472_4 {M : Nat → Nat → Int32} {b j : Nat} {x : Int32} (hb : b < 20) (hj : j < 5) : V (w64 M (472 + 5 * b + j) x) 4 = V M 4 := by
  funext k
  show (if k < 4 then w64 M (472 + 5 * b + j) x 64 (8 + 3 * k + 1) else 0) = (if k < 4 then M 64 (8 + 3 * k + 1) else 0)
  split
  · exact w64_at (by omega)
  · rfl
theorem vw_472_5 {M : Nat → Nat → Int32} {b j : Nat} {x : Int32} (hb : b < 20) (hj : j < 5) : V (w64 M (472 + 5 * b + j) x) 5 = V M 5 := by
  funext k
  show (if k < 4 then w64 M (472 + 5 * b + j) x 64 (8 + 3 * k + 2) else 0) = (if k < 4 then M 64 (8 + 3 * k + 2) else 0)
  split
  · exact w64_at (by omega)
  · rfl
theorem vw_472_7 {M : Nat → Nat → Int32} {b j : Nat} {x : Int32} (hb : b < 20) (hj : j < 5) : V (w64 M (472 + 5 * b + j) x) 7 = V M 7 := by
  funext k
  show (if k < 16 then w64 M (472 + 5 * b + j) x 64 (20 + 2 * k + 0) else 0) = (if k < 16 then M 64 (20 + 2 * k + 0) else 0)
  split
  · exact w64_at (by omega)
  · rfl
theorem vw_472_8 {M : Nat → Nat → Int32} {b j : Nat} {x : Int32} (hb : b < 20) (hj : j < 5) : V (w64 M (472 + 5 * b + j) x) 8 = V M 8 := by
  funext k
  show (if k < 16 then w64 M (472 + 5 * b + j) x 64 (20 + 2 * k + 1) else 0) = (if k < 16 then M 64 (20 + 2 * k + 1) else 0)
  split
  · exact w64_at (by omega)
  · rfl
theorem vw_472_10 {M : Nat → Nat → Int32} {b j : Nat} {x : Int32} (hb : b < 20) (hj : j < 5) : V (w64 M (472 + 5 * b + j) x) 10 = V M 10 := by
  funext k
  show (if k < 12 then w64 M (472 + 5 * b + j) x 64 (52 + 5 * k + 0) else 0) = (if k < 12 then M 64 (52 + 5 * k + 0) else 0)
  split
  · exact w64_at (by omega)
  · rfl
theorem vw_472_11 {M : Nat → Nat → Int32} {b j : Nat} {x : Int32} (hb : b < 20) (hj : j < 5) : V (w64 M (472 + 5 * b + j) x) 11 = V M 11 := by
  funext k
  show (if k < 12 then w64 M (472 + 5 * b + j) x 64 (52 + 5 * k + 1) else 0) = (if k < 12 then M 64 (52 + 5 * k + 1) else 0)
  split
  · exact w64_at (by omega)
  · rfl
theorem vw_472_12 {M : Nat → Nat → Int32} {b j : Nat} {x : Int32} (hb : b < 20) (hj : j < 5) : V (w64 M (472 + 5 * b + j) x) 12 = V M 12 := by
  funext k
  show (if k < 12 then w64 M (472 + 5 * b + j) x 64 (52 + 5 * k + 2) else 0) = (if k < 12 then M 64 (52 + 5 * k + 2) else 0)
  split
  · exact w64_at (by omega)
  · rfl
theorem vw_472_13 {M : Nat → Nat → Int32} {b j : Nat} {x : Int32} (hb : b < 20) (hj : j < 5) : V (w64 M (472 + 5 * b + j) x) 13 = V M 13 := by
  funext k
  show (if k < 12 then w64 M (472 + 5 * b + j) x 64 (52 + 5 * k + 3) else 0) = (if k < 12 then M 64 (52 + 5 * k + 3) else 0)
  split
  · exact w64_at (by omega)
  · rfl
theorem vw_472_14 {M : Nat → Nat → Int32} {b j : Nat} {x : Int32} (hb : b < 20) (hj : j < 5) : V (w64 M (472 + 5 * b + j) x) 14 = V M 14 := by
  funext k
  show (if k < 12 then w64 M (472 + 5 * b + j) x 64 (52 + 5 * k + 4) else 0) = (if k < 12 then M 64 (52 + 5 * k + 4) else 0)
  split
  · exact w64_at (by omega)
  · rfl
theorem vw_472_16 {M : Nat → Nat → Int32} {b j : Nat} {x : Int32} (hb : b < 20) (hj : j < 5) : V (w64 M (472 + 5 * b + j) x) 16 = V M 16 := by
  funext k
  show (if k < 60 then w64 M (472 + 5 * b + j) x 64 (112 + 6 * k + 0) else 0) = (if k < 60 then M 64 (112 + 6 * k + 0) else 0)
  split
  · exact w64_at (by omega)
  · rfl
theorem vw_472_17 {M : Nat → Nat → Int32} {b j : Nat} {x : Int32} (hb : b < 20) (hj : j < 5) : V (w64 M (472 + 5 * b + j) x) 17 = V M 17 := by
  funext k
  show (if k < 60 then w64 M (472 + 5 * b + j) x 64 (112 + 6 * k + 1) else 0) = (if k < 60 then M 64 (112 + 6 * k + 1) else 0)
  split
  · exact w64_at (by omega)
  · rfl
theorem vw_472_18 {M : Nat → Nat → Int32} {b j : Nat} {x : Int32} (hb : b < 20) (hj : j < 5) : V (w64 M (472 + 5 * b + j) x) 18 = V M 18 := by
  funext k
  show (if k < 60 then w64 M (472 + 5 * b + j) x 64 (112 + 6 * k + 2) else 0) = (if k < 60 then M 64 (112 + 6 * k + 2) else 0)
  split
  · exact w64_at (by omega)
  · rfl
theorem vw_472_19 {M : Nat → Nat → Int32} {b j : Nat} {x : Int32} (hb : b < 20) (hj : j < 5) : V (w64 M (472 + 5 * b + j) x) 19 = V M 19 := by
  funext k
  show (if k < 60 then w64 M (472 + 5 * b + j) x 64 (112 + 6 * k + 3) else 0) = (if k < 60 then M 64 (112 + 6 * k + 3) else 0)
  split
  · exact w64_at (by omega)
  · rfl
theorem vw_472_20 {M : Nat → Nat → Int32} {b j : Nat} {x : Int32} (hb : b < 20) (hj : j < 5) : V (w64 M (472 + 5 * b + j) x) 20 = V M 20 := by
  funext k
  show (if k < 60 then w64 M (472 + 5 * b + j) x 64 (112 + 6 * k + 4) else 0) = (if k < 60 then M 64 (112 + 6 * k + 4) else 0)
  split
  · exact w64_at (by omega)
  · rfl
theorem vw_472_21 {M : Nat → Nat → Int32} {b j : Nat} {x : Int32} (hb : b < 20) (hj : j < 5) : V (w64 M (472 + 5 * b + j) x) 21 = V M 21 := by
  funext k
  show (if k < 60 then w64 M (472 + 5 * b + j) x 64 (112 + 6 * k + 5) else 0) = (if k < 60 then M 64 (112 + 6 * k + 5) else 0)
  split
  · exact w64_at (by omega)
  · rfl
theorem vw_472_23 {M : Nat → Nat → Int32} {b j : Nat} {x : Int32} (hb : b < 20) (hj : j < 5) : V (w64 M (472 + 5 * b + j) x) 23 = if j = 0 then upd (V M 23) b x else V M 23 := by
  funext k
  show (if k < 20 then w64 M (472 + 5 * b + j) x 64 (472 + 5 * k + 0) else 0) = _
  by_cases hj0 : j = 0
  · rw [if_pos hj0]; subst hj0
    by_cases hk : k = b
    · subst hk; rw [if_pos hb, w64_s]; exact upd_s.symm
    · rw [upd_n hk]
      show _ = (if k < 20 then M 64 (472 + 5 * k + 0) else 0)
      split
      · exact w64_at (by omega)
      · rfl
  · rw [if_neg hj0]
    show _ = (if k < 20 then M 64 (472 + 5 * k + 0) else 0)
    split
    · exact w64_at (by omega)
    · rfl
theorem vw_472_24 {M : Nat → Nat → Int32} {b j : Nat} {x : Int32} (hb : b < 20) (hj : j < 5) : V (w64 M (472 + 5 * b + j) x) 24 = if j = 1 then upd (V M 24) b x else V M 24 := by
  funext k
  show (if k < 20 then w64 M (472 + 5 * b + j) x 64 (472 + 5 * k + 1) else 0) = _
  by_cases hj0 : j = 1
  · rw [if_pos hj0]; subst hj0
    by_cases hk : k = b
    · subst hk; rw [if_pos hb, w64_s]; exact upd_s.symm
    · rw [upd_n hk]
      show _ = (if k < 20 then M 64 (472 + 5 * k + 1) else 0)
      split
      · exact w64_at (by omega)
      · rfl
  · rw [if_neg hj0]
    show _ = (if k < 20 then M 64 (472 + 5 * k + 1) else 0)
    split
    · exact w64_at (by omega)
    · rfl
theorem vw_472_25 {M : Nat → Nat → Int32} {b j : Nat} {x : Int32} (hb : b < 20) (hj : j < 5) : V (w64 M (472 + 5 * b + j) x) 25 = if j = 2 then upd (V M 25) b x else V M 25 := by
  funext k
  show (if k < 20 then w64 M (472 + 5 * b + j) x 64 (472 + 5 * k + 2) else 0) = _
  by_cases hj0 : j = 2
  · rw [if_pos hj0]; subst hj0
    by_cases hk : k = b
    · subst hk; rw [if_pos hb, w64_s]; exact upd_s.symm
    · rw [upd_n hk]
      show _ = (if k < 20 then M 64 (472 + 5 * k + 2) else 0)
      split
      · exact w64_at (by omega)
      · rfl
  · rw [if_neg hj0]
    show _ = (if k < 20 then M 64 (472 + 5 * k + 2) else 0)
    split
    · exact w64_at (by omega)
    · rfl
theorem vw_472_26 {M : Nat → Nat → Int32} {b j : Nat} {x : Int32} (hb : b < 20) (hj : j < 5) : V (w64 M (472 + 5 * b + j) x) 26 = if j = 3 then upd (V M 26) b x else V M 26 := by
  funext k
  show (if k < 20 then w64 M (472 + 5 * b + j) x 64 (472 + 5 * k + 3) else 0) = _
  by_cases hj0 : j = 3
  · rw [if_pos hj0]; subst hj0
    by_cases hk : k = b
    · subst hk; rw [if_pos hb, w64_s]; exact upd_s.symm
    · rw [upd_n hk]
      show _ = (if k < 20 then M 64 (472 + 5 * k + 3) else 0)
      split
      · exact w64_at (by omega)
      · rfl
  · rw [if_neg hj0]
    show _ = (if k < 20 then M 64 (472 + 5 * k + 3) else 0)
    split
    · exact w64_at (by omega)
    · rfl
theorem vw_472_27 {M : Nat → Nat → Int32} {b j : Nat} {x : Int32} (hb : b < 20) (hj : j < 5) : V (w64 M (472 + 5 * b + j) x) 27 = if j = 4 then upd (V M 27) b x else V M 27 := by
  funext k
  show (if k < 20 then w64 M (472 + 5 * b + j) x 64 (472 + 5 * k + 4) else 0) = _
  by_cases hj0 : j = 4
  · rw [if_pos hj0]; subst hj0
    by_cases hk : k = b
    · subst hk; rw [if_pos hb, w64_s]; exact upd_s.symm
    · rw [upd_n hk]
      show _ = (if k < 20 then M 64 (472 + 5 * k + 4) else 0)
      split
      · exact w64_at (by omega)
      · rfl
  · rw [if_neg hj0]
    show _ = (if k < 20 then M 64 (472 + 5 * k + 4) else 0)
    split
    · exact w64_at (by omega)
    · rfl
theorem vw_0_3 {M : Nat → Nat → Int32} {p : Nat} {x : Int32} (hp : p < 8) : V (w64 M p x) 3 = V M 3 := by
  funext k
  show (if k < 4 then w64 M p x 64 (8 + 3 * k + 0) else 0) = (if k < 4 then M 64 (8 + 3 * k + 0) else 0)
  split
  · exact w64_at (by omega)
  · rfl
theorem vw_0_4 {M : Nat → Nat → Int32} {p : Nat} {x : Int32} (hp : p < 8) : V (w64 M p x) 4 = V M 4 := by
  funext k
  show (if k < 4 then w64 M p x 64 (8 + 3 * k + 1) else 0) = (if k < 4 then M 64 (8 + 3 * k + 1) else 0)
  split
  · exact w64_at (by omega)
  · rfl
theorem vw_0_5 {M : Nat → Nat → Int32} {p : Nat} {x : Int32} (hp : p < 8) : V (w64 M p x) 5 = V M 5 := by
  funext k
  show (if k < 4 then w64 M p x 64 (8 + 3 * k + 2) else 0) = (if k < 4 then M 64 (8 + 3 * k + 2) else 0)
  split
  · exact w64_at (by omega)
  · rfl
theorem vw_0_7 {M : Nat → Nat → Int32} {p : Nat} {x : Int32} (hp : p < 8) : V (w64 M p x) 7 = V M 7 := by
  funext k
  show (if k < 16 then w64 M p x 64 (20 + 2 * k + 0) else 0) = (if k < 16 then M 64 (20 + 2 * k + 0) else 0)
  split
  · exact w64_at (by omega)
  · rfl
theorem vw_0_8 {M : Nat → Nat → Int32} {p : Nat} {x : Int32} (hp : p < 8) : V (w64 M p x) 8 = V M 8 := by
  funext k
  show (if k < 16 then w64 M p x 64 (20 + 2 * k + 1) else 0) = (if k < 16 then M 64 (20 + 2 * k + 1) else 0)
  split
  · exact w64_at (by omega)
  · rfl
theorem vw_0_10 {M : Nat → Nat → Int32} {p : Nat} {x : Int32} (hp : p < 8) : V (w64 M p x) 10 = V M 10 := by
  funext k
  show (if k < 12 then w64 M p x 64 (52 + 5 * k + 0) else 0) = (if k < 12 then M 64 (52 + 5 * k + 0) else 0)
  split
  · exact w64_at (by omega)
  · rfl
theorem vw_0_11 {M : Nat → Nat → Int32} {p : Nat} {x : Int32} (hp : p < 8) : V (w64 M p x) 11 = V M 11 := by
  funext k
  show (if k < 12 then w64 M p x 64 (52 + 5 * k + 1) else 0) = (if k < 12 then M 64 (52 + 5 * k + 1) else 0)
  split
  · exact w64_at (by omega)
  · rfl
theorem vw_0_12 {M : Nat → Nat → Int32} {p : Nat} {x : Int32} (hp : p < 8) : V (w64 M p x) 12 = V M 12 := by
  funext k
  show (if k < 12 then w64 M p x 64 (52 + 5 * k + 2) else 0) = (if k < 12 then M 64 (52 + 5 * k + 2) else 0)
  split
  · exact w64_at (by omega)
  · rfl
theorem vw_0_13 {M : Nat → Nat → Int32} {p : Nat} {x : Int32} (hp : p < 8) : V (w64 M p x) 13 = V M 13 := by
  funext k
  show (if k < 12 then w64 M p x 64 (52 + 5 * k + 3) else 0) = (if k < 12 then M 64 (52 + 5 * k + 3) else 0)
  split
  · exact w64_at (by omega)
  · rfl
theorem vw_0_14 {M : Nat → Nat → Int32} {p : Nat} {x : Int32} (hp : p < 8) : V (w64 M p x) 14 = V M 14 := by
  funext k
  show (if k < 12 then w64 M p x 64 (52 + 5 * k + 4) else 0) = (if k < 12 then M 64 (52 + 5 * k + 4) else 0)
  split
  · exact w64_at (by omega)
  · rfl
theorem vw_0_16 {M : Nat → Nat → Int32} {p : Nat} {x : Int32} (hp : p < 8) : V (w64 M p x) 16 = V M 16 := by
  funext k
  show (if k < 60 then w64 M p x 64 (112 + 6 * k + 0) else 0) = (if k < 60 then M 64 (112 + 6 * k + 0) else 0)
  split
  · exact w64_at (by omega)
  · rfl
theorem vw_0_17 {M : Nat → Nat → Int32} {p : Nat} {x : Int32} (hp : p < 8) : V (w64 M p x) 17 = V M 17 := by
  funext k
  show (if k < 60 then w64 M p x 64 (112 + 6 * k + 1) else 0) = (if k < 60 then M 64 (112 + 6 * k + 1) else 0)
  split
  · exact w64_at (by omega)
  · rfl
theorem vw_0_18 {M : Nat → Nat → Int32} {p : Nat} {x : Int32} (hp : p < 8) : V (w64 M p x) 18 = V M 18 := by
  funext k
  show (if k < 60 then w64 M p x 64 (112 + 6 * k + 2) else 0) = (if k < 60 then M 64 (112 + 6 * k + 2) else 0)
  split
  · exact w64_at (by omega)
  · rfl
theorem vw_0_19 {M : Nat → Nat → Int32} {p : Nat} {x : Int32} (hp : p < 8) : V (w64 M p x) 19 = V M 19 := by
  funext k
  show (if k < 60 then w64 M p x 64 (112 + 6 * k + 3) else 0) = (if k < 60 then M 64 (112 + 6 * k + 3) else 0)
  split
  · exact w64_at (by omega)
  · rfl
theorem vw_0_20 {M : Nat → Nat → Int32} {p : Nat} {x : Int32} (hp : p < 8) : V (w64 M p x) 20 = V M 20 := by
  funext k
  show (if k < 60 then w64 M p x 64 (112 + 6 * k + 4) else 0) = (if k < 60 then M 64 (112 + 6 * k + 4) else 0)
  split
  · exact w64_at (by omega)
  · rfl
theorem vw_0_21 {M : Nat → Nat → Int32} {p : Nat} {x : Int32} (hp : p < 8) : V (w64 M p x) 21 = V M 21 := by
  funext k
  show (if k < 60 then w64 M p x 64 (112 + 6 * k + 5) else 0) = (if k < 60 then M 64 (112 + 6 * k + 5) else 0)
  split
  · exact w64_at (by omega)
  · rfl
theorem vw_0_23 {M : Nat → Nat → Int32} {p : Nat} {x : Int32} (hp : p < 8) : V (w64 M p x) 23 = V M 23 := by
  funext k
  show (if k < 20 then w64 M p x 64 (472 + 5 * k + 0) else 0) = (if k < 20 then M 64 (472 + 5 * k + 0) else 0)
  split
  · exact w64_at (by omega)
  · rfl
theorem vw_0_24 {M : Nat → Nat → Int32} {p : Nat} {x : Int32} (hp : p < 8) : V (w64 M p x) 24 = V M 24 := by
  funext k
  show (if k < 20 then w64 M p x 64 (472 + 5 * k + 1) else 0) = (if k < 20 then M 64 (472 + 5 * k + 1) else 0)
  split
  · exact w64_at (by omega)
  · rfl
theorem vw_0_25 {M : Nat → Nat → Int32} {p : Nat} {x : Int32} (hp : p < 8) : V (w64 M p x) 25 = V M 25 := by
  funext k
  show (if k < 20 then w64 M p x 64 (472 + 5 * k + 2) else 0) = (if k < 20 then M 64 (472 + 5 * k + 2) else 0)
  split
  · exact w64_at (by omega)
  · rfl
theorem vw_0_26 {M : Nat → Nat → Int32} {p : Nat} {x : Int32} (hp : p < 8) : V (w64 M p x) 26 = V M 26 := by
  funext k
  show (if k < 20 then w64 M p x 64 (472 + 5 * k + 3) else 0) = (if k < 20 then M 64 (472 + 5 * k + 3) else 0)
  split
  · exact w64_at (by omega)
  · rfl
theorem vw_0_27 {M : Nat → Nat → Int32} {p : Nat} {x : Int32} (hp : p < 8) : V (w64 M p x) 27 = V M 27 := by
  funext k
  show (if k < 20 then w64 M p x 64 (472 + 5 * k + 4) else 0) = (if k < 20 then M 64 (472 + 5 * k + 4) else 0)
  split
  · exact w64_at (by omega)
  · rfl
def appendBookingM (M : Nat → Nat → Int32) (k : Nat) (c a m pr : Int32) : Nat → Nat → Int32 := (w64 (w64 (w64 (w64 (w64 (w64 (w64 M (112 + 6 * k + 0) c) (112 + 6 * k + 1) a) (112 + 6 * k + 2) (a + m)) (112 + 6 * k + 3) pr) (112 + 6 * k + 4) 0) (112 + 6 * k + 5) (-1)) 4 (nI (k + 1)))
set_option maxRecDepth 100000 in
set_option maxHeartbeats 4000000 in
theorem c_X10_appendBooking {G : AG} {M : Nat → Nat → Int32} {n : Nat} (hn : 72 ≤ n) {k nz x mm : Nat} (hk : M 64 4 = nI k) (hlt : k < 60) (hz : M 64 3 = nI nz) (hzl : nz ≤ 12) {c a m : Int32} (hx : a = nI x) (hm : m = nI mm) (hx9 : x + mm ≤ 5000) : AMet tX10_appendBooking yX10_appendBooking [Cond.code yX10_appendBooking cX10_appendBooking 5 (some .int)] [.ref 63, .int c, .int a, .int m] (wld G M) n (PD (.inl (some (.int (nI k)))) (wld G (appendBookingM M k c a m (psum (fun d => sval (seasN (V M 10) (V M 11) (V M 12) c d nz) (V M 14) 20) x mm))) n) := by
  refine am_of (lo := [_, _, _, _, _]) (by decide) rfl (fun q => by cases q) rfl rfl rfl ?_
  refine aw_aload_n dX10_appendBooking_0 rfl ?_
  refine aw_get fl_X10_7 dX10_appendBooking_1 e_63 (l_63 hn) rfl ?_
  refine aw_iconst (v := 4) dX10_appendBooking_4 (by decide) ?_
  refine aw_ialdk dX10_appendBooking_5 e_64 (l_64 hn) (show (4 : Int32) = nI 4 from rfl) (by decide) rfl ?_
  refine aw_istore (lo' := [_, _, _, _, some (.int _)]) dX10_appendBooking_6 (by decide) rfl ?_
  refine aw_aload_n dX10_appendBooking_8 rfl ?_
  refine aw_iload dX10_appendBooking_9 rfl ?_
  refine aw_iconst (v := 0) dX10_appendBooking_11 (by decide) ?_
  refine aw_iload_n dX10_appendBooking_12 rfl ?_
  refine ap_callVv kv_X10_134 ko_X10_setBooking (c_X10_setBooking hn hk (by omega) (show (0 : Int32) = nI 0 from rfl) (by decide) _) dX10_appendBooking_13 e_63 (l_63 hn) rfl rfl rfl rfl (ble' rfl) (by decide) ?_
  refine aw_aload_n dX10_appendBooking_16 rfl ?_
  refine aw_iload dX10_appendBooking_17 rfl ?_
  refine aw_iconst (v := 1) dX10_appendBooking_19 (by decide) ?_
  refine aw_iload_n dX10_appendBooking_20 rfl ?_
  refine ap_callVv kv_X10_134 ko_X10_setBooking (c_X10_setBooking hn hk (by omega) (show (1 : Int32) = nI 1 from rfl) (by decide) _) dX10_appendBooking_21 e_63 (l_63 hn) rfl rfl rfl rfl (ble' rfl) (by decide) ?_
  refine aw_aload_n dX10_appendBooking_24 rfl ?_
  refine aw_iload dX10_appendBooking_25 rfl ?_
  refine aw_iconst (v := 2) dX10_appendBooking_27 (by decide) ?_
  refine aw_iload_n dX10_appendBooking_28 rfl ?_
  refine aw_iload_n dX10_appendBooking_29 rfl ?_
  refine aw_iadd dX10_appendBooking_30 ?_
  refine ap_callVv kv_X10_134 ko_X10_setBooking (c_X10_setBooking hn hk (by omega) (show (2 : Int32) = nI 2 from rfl) (by decide) _) dX10_appendBooking_31 e_63 (l_63 hn) rfl rfl rfl rfl (ble' rfl) (by decide) ?_
  refine aw_aload_n dX10_appendBooking_34 rfl ?_
  refine aw_iload dX10_appendBooking_35 rfl ?_
  refine aw_iconst (v := 3) dX10_appendBooking_37 (by decide) ?_
  refine aw_aload_n dX10_appendBooking_38 rfl ?_
  refine aw_iload_n dX10_appendBooking_39 rfl ?_
  refine aw_iload_n dX10_appendBooking_40 rfl ?_
  refine aw_iload_n dX10_appendBooking_41 rfl ?_
  refine aw_iload_n dX10_appendBooking_42 rfl ?_
  refine aw_iadd dX10_appendBooking_43 ?_
  have hz2 : (w64 (w64 (w64 M (112 + 6 * k + 0) c) (112 + 6 * k + 1) a) (112 + 6 * k + 2) (a + m)) 64 3 = nI nz := by rw [w64_at (by omega), w64_at (by omega), w64_at (by omega)]; exact hz
  refine ap_callVi kv_X10_131 ko_X10_pricesOf (c_X10_pricesOf (M := (w64 (w64 (w64 M (112 + 6 * k + 0) c) (112 + 6 * k + 1) a) (112 + 6 * k + 2) (a + m))) hn hz2 hzl c (a := x) (b := x + mm) (by omega) (by omega) hx (by rw [hx, hm, nI_add])) dX10_appendBooking_44 e_63 (l_63 hn) rfl rfl rfl rfl (ble' rfl) (by decide) ?_
  simp only [vw_112_10 hlt, vw_112_11 hlt, vw_112_12 hlt, vw_112_14 hlt, show (0 : Nat) < 6 by decide, show (1 : Nat) < 6 by decide, show (2 : Nat) < 6 by decide, show x + mm - x = mm by omega]
  refine ap_callVv kv_X10_134 ko_X10_setBooking (c_X10_setBooking hn hk (by omega) (show (3 : Int32) = nI 3 from rfl) (by decide) _) dX10_appendBooking_47 e_63 (l_63 hn) rfl rfl rfl rfl (ble' rfl) (by decide) ?_
  refine aw_aload_n dX10_appendBooking_50 rfl ?_
  refine aw_iload dX10_appendBooking_51 rfl ?_
  refine aw_iconst (v := 4) dX10_appendBooking_53 (by decide) ?_
  refine aw_iconst (v := 0) dX10_appendBooking_54 (by decide) ?_
  refine ap_callVv kv_X10_134 ko_X10_setBooking (c_X10_setBooking hn hk (by omega) (show (4 : Int32) = nI 4 from rfl) (by decide) _) dX10_appendBooking_55 e_63 (l_63 hn) rfl rfl rfl rfl (ble' rfl) (by decide) ?_
  refine aw_aload_n dX10_appendBooking_58 rfl ?_
  refine aw_iload dX10_appendBooking_59 rfl ?_
  refine aw_iconst (v := 5) dX10_appendBooking_61 (by decide) ?_
  refine aw_iconst (v := -1) dX10_appendBooking_62 (by decide) ?_
  refine ap_callVv kv_X10_134 ko_X10_setBooking (c_X10_setBooking hn hk (by omega) (show (5 : Int32) = nI 5 from rfl) (by decide) _) dX10_appendBooking_63 e_63 (l_63 hn) rfl rfl rfl rfl (ble' rfl) (by decide) ?_
  refine aw_aload_n dX10_appendBooking_66 rfl ?_
  refine aw_get fl_X10_7 dX10_appendBooking_67 e_63 (l_63 hn) rfl ?_
  refine aw_iconst (v := 4) dX10_appendBooking_70 (by decide) ?_
  refine aw_dup2 dX10_appendBooking_71 rfl rfl ?_
  refine aw_ialdk dX10_appendBooking_72 e_64 (l_64 hn) (show (4 : Int32) = nI 4 from rfl) (by decide) rfl ?_
  refine aw_iconst (v := 1) dX10_appendBooking_73 (by decide) ?_
  have e1 : (w64 (w64 (w64 (w64 (w64 (w64 M (112 + 6 * k + 0) c) (112 + 6 * k + 1) a) (112 + 6 * k + 2) (a + m)) (112 + 6 * k + 3) (psum (fun d => sval (seasN (V M 10) (V M 11) (V M 12) c d nz) (V M 14) 20) x mm)) (112 + 6 * k + 4) 0) (112 + 6 * k + 5) (-1)) 64 4 = nI k := by rw [w64_at (by omega), w64_at (by omega), w64_at (by omega), w64_at (by omega), w64_at (by omega), w64_at (by omega)]; exact hk
  rw [e1]
  refine aw_iadd dX10_appendBooking_74 ?_
  refine aw_iastk dX10_appendBooking_75 e_64 (l_64 hn) (show (4 : Int32) = nI 4 from rfl) (by decide) rfl hw64 ?_
  refine aw_iload dX10_appendBooking_76 rfl ?_
  refine aw_iret rfl dX10_appendBooking_78 (ble' rfl) (ble' rfl) ?_
  exact pd_ih hk (by unfold appendBookingM; rw [nI_succ])
