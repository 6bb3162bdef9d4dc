/-- the rows M, with the plan's own: places, last departures, gaps, orphans -/
def plM (M : Nat → Nat → Int32) (pl bu : Nat → Int32) (g o : Int32) : Nat → Nat → Int32 := fun i => if i = 59 then pl else if i = 60 then bu else if i = 58 then upd (upd (M 58) 3 g) 4 o else M i
theorem ep_0 {G : AG} {M : Nat → Nat → Int32} {pl bu : Nat → Int32} {g o : Int32} : wld G (plM M pl bu g o) 0 = .inr (9, [.ref 1, .ref 28, .ref 55, .ref 56, .ref 58, .ref 61, .ref 62, .int (M 0 7)]) := rfl
theorem ep_1 {G : AG} {M : Nat → Nat → Int32} {pl bu : Nat → Int32} {g o : Int32} : wld G (plM M pl bu g o) 1 = .inr (1, [.ref 2, .ref 6, .ref 9, .ref 15, .ref 22, .int (M 1 5)]) := rfl
theorem ep_2 {G : AG} {M : Nat → Nat → Int32} {pl bu : Nat → Int32} {g o : Int32} : wld G (plM M pl bu g o) 2 = .inr (2, [.ref 3, .ref 4, .ref 5, .int (M 2 3)]) := rfl
theorem ep_3 {G : AG} {M : Nat → Nat → Int32} {pl bu : Nat → Int32} {g o : Int32} : wld G (plM M pl bu g o) 3 = .inl (0, 4, .inl (M 3)) := rfl
theorem ep_4 {G : AG} {M : Nat → Nat → Int32} {pl bu : Nat → Int32} {g o : Int32} : wld G (plM M pl bu g o) 4 = .inl (0, 4, .inl (M 4)) := rfl
theorem ep_5 {G : AG} {M : Nat → Nat → Int32} {pl bu : Nat → Int32} {g o : Int32} : wld G (plM M pl bu g o) 5 = .inl (0, 4, .inl (M 5)) := rfl
theorem ep_6 {G : AG} {M : Nat → Nat → Int32} {pl bu : Nat → Int32} {g o : Int32} : wld G (plM M pl bu g o) 6 = .inr (7, [.ref 7, .ref 8, .int (M 6 2)]) := rfl
theorem ep_7 {G : AG} {M : Nat → Nat → Int32} {pl bu : Nat → Int32} {g o : Int32} : wld G (plM M pl bu g o) 7 = .inl (0, 16, .inl (M 7)) := rfl
theorem ep_8 {G : AG} {M : Nat → Nat → Int32} {pl bu : Nat → Int32} {g o : Int32} : wld G (plM M pl bu g o) 8 = .inl (0, 16, .inl (M 8)) := rfl
theorem ep_9 {G : AG} {M : Nat → Nat → Int32} {pl bu : Nat → Int32} {g o : Int32} : wld G (plM M pl bu g o) 9 = .inr (5, [.ref 10, .ref 11, .ref 12, .ref 13, .ref 14, .int (M 9 5)]) := rfl
theorem ep_10 {G : AG} {M : Nat → Nat → Int32} {pl bu : Nat → Int32} {g o : Int32} : wld G (plM M pl bu g o) 10 = .inl (0, 12, .inl (M 10)) := rfl
theorem ep_11 {G : AG} {M : Nat → Nat → Int32} {pl bu : Nat → Int32} {g o : Int32} : wld G (plM M pl bu g o) 11 = .inl (0, 12, .inl (M 11)) := rfl
theorem ep_12 {G : AG} {M : Nat → Nat → Int32} {pl bu : Nat → Int32} {g o : Int32} : wld G (plM M pl bu g o) 12 = .inl (0, 12, .inl (M 12)) := rfl
theorem ep_13 {G : AG} {M : Nat → Nat → Int32} {pl bu : Nat → Int32} {g o : Int32} : wld G (plM M pl bu g o) 13 = .inl (0, 12, .inl (M 13)) := rfl
theorem ep_14 {G : AG} {M : Nat → Nat → Int32} {pl bu : Nat → Int32} {g o : Int32} : wld G (plM M pl bu g o) 14 = .inl (0, 12, .inl (M 14)) := rfl
theorem ep_15 {G : AG} {M : Nat → Nat → Int32} {pl bu : Nat → Int32} {g o : Int32} : wld G (plM M pl bu g o) 15 = .inr (0, [.ref 16, .ref 17, .ref 18, .ref 19, .ref 20, .ref 21, .int (M 15 6)]) := rfl
theorem ep_16 {G : AG} {M : Nat → Nat → Int32} {pl bu : Nat → Int32} {g o : Int32} : wld G (plM M pl bu g o) 16 = .inl (0, 60, .inl (M 16)) := rfl
theorem ep_17 {G : AG} {M : Nat → Nat → Int32} {pl bu : Nat → Int32} {g o : Int32} : wld G (plM M pl bu g o) 17 = .inl (0, 60, .inl (M 17)) := rfl
theorem ep_18 {G : AG} {M : Nat → Nat → Int32} {pl bu : Nat → Int32} {g o : Int32} : wld G (plM M pl bu g o) 18 = .inl (0, 60, .inl (M 18)) := rfl
theorem ep_19 {G : AG} {M : Nat → Nat → Int32} {pl bu : Nat → Int32} {g o : Int32} : wld G (plM M pl bu g o) 19 = .inl (0, 60, .inl (M 19)) := rfl
theorem ep_20 {G : AG} {M : Nat → Nat → Int32} {pl bu : Nat → Int32} {g o : Int32} : wld G (plM M pl bu g o) 20 = .inl (0, 60, .inl (M 20)) := rfl
theorem ep_21 {G : AG} {M : Nat → Nat → Int32} {pl bu : Nat → Int32} {g o : Int32} : wld G (plM M pl bu g o) 21 = .inl (0, 60, .inl (M 21)) := rfl
theorem ep_22 {G : AG} {M : Nat → Nat → Int32} {pl bu : Nat → Int32} {g o : Int32} : wld G (plM M pl bu g o) 22 = .inr (4, [.ref 23, .ref 24, .ref 25, .ref 26, .ref 27, .int (M 22 5)]) := rfl
theorem ep_23 {G : AG} {M : Nat → Nat → Int32} {pl bu : Nat → Int32} {g o : Int32} : wld G (plM M pl bu g o) 23 = .inl (0, 20, .inl (M 23)) := rfl
theorem ep_24 {G : AG} {M : Nat → Nat → Int32} {pl bu : Nat → Int32} {g o : Int32} : wld G (plM M pl bu g o) 24 = .inl (0, 20, .inl (M 24)) := rfl
theorem ep_25 {G : AG} {M : Nat → Nat → Int32} {pl bu : Nat → Int32} {g o : Int32} : wld G (plM M pl bu g o) 25 = .inl (0, 20, .inl (M 25)) := rfl
theorem ep_26 {G : AG} {M : Nat → Nat → Int32} {pl bu : Nat → Int32} {g o : Int32} : wld G (plM M pl bu g o) 26 = .inl (0, 20, .inl (M 26)) := rfl
theorem ep_27 {G : AG} {M : Nat → Nat → Int32} {pl bu : Nat → Int32} {g o : Int32} : wld G (plM M pl bu g o) 27 = .inl (0, 20, .inl (M 27)) := rfl
theorem ep_28 {G : AG} {M : Nat → Nat → Int32} {pl bu : Nat → Int32} {g o : Int32} : wld G (plM M pl bu g o) 28 = .inr (1, [.ref 29, .ref 33, .ref 36, .ref 42, .ref 49, .int (M 28 5)]) := rfl
theorem ep_29 {G : AG} {M : Nat → Nat → Int32} {pl bu : Nat → Int32} {g o : Int32} : wld G (plM M pl bu g o) 29 = .inr (2, [.ref 30, .ref 31, .ref 32, .int (M 29 3)]) := rfl
theorem ep_30 {G : AG} {M : Nat → Nat → Int32} {pl bu : Nat → Int32} {g o : Int32} : wld G (plM M pl bu g o) 30 = .inl (0, 4, .inl (M 30)) := rfl
theorem ep_31 {G : AG} {M : Nat → Nat → Int32} {pl bu : Nat → Int32} {g o : Int32} : wld G (plM M pl bu g o) 31 = .inl (0, 4, .inl (M 31)) := rfl
theorem ep_32 {G : AG} {M : Nat → Nat → Int32} {pl bu : Nat → Int32} {g o : Int32} : wld G (plM M pl bu g o) 32 = .inl (0, 4, .inl (M 32)) := rfl
theorem ep_33 {G : AG} {M : Nat → Nat → Int32} {pl bu : Nat → Int32} {g o : Int32} : wld G (plM M pl bu g o) 33 = .inr (7, [.ref 34, .ref 35, .int (M 33 2)]) := rfl
theorem ep_34 {G : AG} {M : Nat → Nat → Int32} {pl bu : Nat → Int32} {g o : Int32} : wld G (plM M pl bu g o) 34 = .inl (0, 16, .inl (M 34)) := rfl
theorem ep_35 {G : AG} {M : Nat → Nat → Int32} {pl bu : Nat → Int32} {g o : Int32} : wld G (plM M pl bu g o) 35 = .inl (0, 16, .inl (M 35)) := rfl
theorem ep_36 {G : AG} {M : Nat → Nat → Int32} {pl bu : Nat → Int32} {g o : Int32} : wld G (plM M pl bu g o) 36 = .inr (5, [.ref 37, .ref 38, .ref 39, .ref 40, .ref 41, .int (M 36 5)]) := rfl
theorem ep_37 {G : AG} {M : Nat → Nat → Int32} {pl bu : Nat → Int32} {g o : Int32} : wld G (plM M pl bu g o) 37 = .inl (0, 12, .inl (M 37)) := rfl
theorem ep_38 {G : AG} {M : Nat → Nat → Int32} {pl bu : Nat → Int32} {g o : Int32} : wld G (plM M pl bu g o) 38 = .inl (0, 12, .inl (M 38)) := rfl
theorem ep_39 {G : AG} {M : Nat → Nat → Int32} {pl bu : Nat → Int32} {g o : Int32} : wld G (plM M pl bu g o) 39 = .inl (0, 12, .inl (M 39)) := rfl
theorem ep_40 {G : AG} {M : Nat → Nat → Int32} {pl bu : Nat → Int32} {g o : Int32} : wld G (plM M pl bu g o) 40 = .inl (0, 12, .inl (M 40)) := rfl
theorem ep_41 {G : AG} {M : Nat → Nat → Int32} {pl bu : Nat → Int32} {g o : Int32} : wld G (plM M pl bu g o) 41 = .inl (0, 12, .inl (M 41)) := rfl
theorem ep_42 {G : AG} {M : Nat → Nat → Int32} {pl bu : Nat → Int32} {g o : Int32} : wld G (plM M pl bu g o) 42 = .inr (0, [.ref 43, .ref 44, .ref 45, .ref 46, .ref 47, .ref 48, .int (M 42 6)]) := rfl
theorem ep_43 {G : AG} {M : Nat → Nat → Int32} {pl bu : Nat → Int32} {g o : Int32} : wld G (plM M pl bu g o) 43 = .inl (0, 60, .inl (M 43)) := rfl
theorem ep_44 {G : AG} {M : Nat → Nat → Int32} {pl bu : Nat → Int32} {g o : Int32} : wld G (plM M pl bu g o) 44 = .inl (0, 60, .inl (M 44)) := rfl
theorem ep_45 {G : AG} {M : Nat → Nat → Int32} {pl bu : Nat → Int32} {g o : Int32} : wld G (plM M pl bu g o) 45 = .inl (0, 60, .inl (M 45)) := rfl
theorem ep_46 {G : AG} {M : Nat → Nat → Int32} {pl bu : Nat → Int32} {g o : Int32} : wld G (plM M pl bu g o) 46 = .inl (0, 60, .inl (M 46)) := rfl
theorem ep_47 {G : AG} {M : Nat → Nat → Int32} {pl bu : Nat → Int32} {g o : Int32} : wld G (plM M pl bu g o) 47 = .inl (0, 60, .inl (M 47)) := rfl
theorem ep_48 {G : AG} {M : Nat → Nat → Int32} {pl bu : Nat → Int32} {g o : Int32} : wld G (plM M pl bu g o) 48 = .inl (0, 60, .inl (M 48)) := rfl
theorem ep_49 {G : AG} {M : Nat → Nat → Int32} {pl bu : Nat → Int32} {g o : Int32} : wld G (plM M pl bu g o) 49 = .inr (4, [.ref 50, .ref 51, .ref 52, .ref 53, .ref 54, .int (M 49 5)]) := rfl
theorem ep_50 {G : AG} {M : Nat → Nat → Int32} {pl bu : Nat → Int32} {g o : Int32} : wld G (plM M pl bu g o) 50 = .inl (0, 20, .inl (M 50)) := rfl
theorem ep_51 {G : AG} {M : Nat → Nat → Int32} {pl bu : Nat → Int32} {g o : Int32} : wld G (plM M pl bu g o) 51 = .inl (0, 20, .inl (M 51)) := rfl
theorem ep_52 {G : AG} {M : Nat → Nat → Int32} {pl bu : Nat → Int32} {g o : Int32} : wld G (plM M pl bu g o) 52 = .inl (0, 20, .inl (M 52)) := rfl
theorem ep_53 {G : AG} {M : Nat → Nat → Int32} {pl bu : Nat → Int32} {g o : Int32} : wld G (plM M pl bu g o) 53 = .inl (0, 20, .inl (M 53)) := rfl
theorem ep_54 {G : AG} {M : Nat → Nat → Int32} {pl bu : Nat → Int32} {g o : Int32} : wld G (plM M pl bu g o) 54 = .inl (0, 20, .inl (M 54)) := rfl
theorem ep_55 {G : AG} {M : Nat → Nat → Int32} {pl bu : Nat → Int32} {g o : Int32} : wld G (plM M pl bu g o) 55 = .inl (4, 2, .inr (.inr (.inr (.inr G.1)))) := rfl
theorem ep_56 {G : AG} {M : Nat → Nat → Int32} {pl bu : Nat → Int32} {g o : Int32} : wld G (plM M pl bu g o) 56 = .inr (8, [.ref 1, .ref 57, .int (M 56 2)]) := rfl
theorem ep_57 {G : AG} {M : Nat → Nat → Int32} {pl bu : Nat → Int32} {g o : Int32} : wld G (plM M pl bu g o) 57 = .inl (0, 999, .inl (M 57)) := rfl
theorem ep_58 {G : AG} {M : Nat → Nat → Int32} {pl bu : Nat → Int32} {g o : Int32} : wld G (plM M pl bu g o) 58 = .inr (3, [.ref 1, .ref 59, .ref 60, .int g, .int o]) := rfl
theorem ep_59 {G : AG} {M : Nat → Nat → Int32} {pl bu : Nat → Int32} {g o : Int32} : wld G (plM M pl bu g o) 59 = .inl (0, 60, .inl pl) := rfl
theorem ep_60 {G : AG} {M : Nat → Nat → Int32} {pl bu : Nat → Int32} {g o : Int32} : wld G (plM M pl bu g o) 60 = .inl (0, 16, .inl bu) := rfl
theorem ep_61 {G : AG} {M : Nat → Nat → Int32} {pl bu : Nat → Int32} {g o : Int32} : wld G (plM M pl bu g o) 61 = .inl (1, 500, .inl (M 61)) := rfl
theorem ep_62 {G : AG} {M : Nat → Nat → Int32} {pl bu : Nat → Int32} {g o : Int32} : wld G (plM M pl bu g o) 62 = .inr (6, [.ref 61, .ref 28, .int (M 62 2), .int (M 62 3), .int (M 62 4), .int (M 62 5), .int (M 62 6), .int (M 62 7), .int (M 62 8)]) := rfl
theorem ep_63 {G : AG} {M : Nat → Nat → Int32} {pl bu : Nat → Int32} {g o : Int32} : wld G (plM M pl bu g o) 63 = .inr (10, [.ref 64, .ref 65, .ref 66, .ref 67, .int (M 63 4), .ref 68, .ref 69, .int (M 63 7), .int (M 63 8), .ref 70, .int (M 63 10), .int (M 63 11), .int (M 63 12), .int (M 63 13), .int (M 63 14), .int (M 63 15), .int (M 63 16), .int (M 63 17), .long G.2.1]) := rfl
theorem ep_64 {G : AG} {M : Nat → Nat → Int32} {pl bu : Nat → Int32} {g o : Int32} : wld G (plM M pl bu g o) 64 = .inl (0, 572, .inl (M 64)) := rfl
theorem ep_65 {G : AG} {M : Nat → Nat → Int32} {pl bu : Nat → Int32} {g o : Int32} : wld G (plM M pl bu g o) 65 = .inl (0, 572, .inl (M 65)) := rfl
theorem ep_66 {G : AG} {M : Nat → Nat → Int32} {pl bu : Nat → Int32} {g o : Int32} : wld G (plM M pl bu g o) 66 = .inl (0, 1144, .inl (M 66)) := rfl
theorem ep_67 {G : AG} {M : Nat → Nat → Int32} {pl bu : Nat → Int32} {g o : Int32} : wld G (plM M pl bu g o) 67 = .inl (3, 2, .inl (M 67)) := rfl
theorem ep_68 {G : AG} {M : Nat → Nat → Int32} {pl bu : Nat → Int32} {g o : Int32} : wld G (plM M pl bu g o) 68 = .inl (0, 60, .inl (M 68)) := rfl
theorem ep_69 {G : AG} {M : Nat → Nat → Int32} {pl bu : Nat → Int32} {g o : Int32} : wld G (plM M pl bu g o) 69 = .inl (0, 16, .inl (M 69)) := rfl
theorem ep_70 {G : AG} {M : Nat → Nat → Int32} {pl bu : Nat → Int32} {g o : Int32} : wld G (plM M pl bu g o) 70 = .inl (0, 500, .inl (M 70)) := rfl
theorem ep_71 {G : AG} {M : Nat → Nat → Int32} {pl bu : Nat → Int32} {g o : Int32} : wld G (plM M pl bu g o) 71 = .inl (2, 1, .inr (.inl (fun _ => G.2.2))) := rfl
theorem hp59 {G : AG} {M : Nat → Nat → Int32} {pl bu r : Nat → Int32} {g o : Int32} : hset (wld G (plM M pl bu g o)) 59 (.inl (0, 60, .inl r)) = wld G (plM M r bu g o) := by
  refine (hset_wld (i := 59) (r := r) rfl).trans ?_; congr 1; funext i; unfold updM plM; split <;> rfl
theorem hp60 {G : AG} {M : Nat → Nat → Int32} {pl bu r : Nat → Int32} {g o : Int32} : hset (wld G (plM M pl bu g o)) 60 (.inl (0, 16, .inl r)) = wld G (plM M pl r g o) := by
  refine (hset_wld (i := 60) (r := r) rfl).trans ?_; congr 1; funext i; unfold updM plM
  by_cases h1 : i = 60
  · subst h1; rfl
  · simp [h1]
theorem hp58g {G : AG} {M : Nat → Nat → Int32} {pl bu : Nat → Int32} {g o x : Int32} {fs : List Value} (e : fs = [.ref 1, .ref 59, .ref 60, .int g, .int o]) : hset (wld G (plM M pl bu g o)) 58 (.inr (3, fs.set 3 (.int x))) = wld G (plM M pl bu x o) := by
  subst e
  refine (hset_wld (i := 58) (r := upd (upd (M 58) 3 x) 4 o) rfl).trans ?_; congr 1; funext i; unfold updM plM
  by_cases h1 : i = 58
  · subst h1; rfl
  · simp [h1]
theorem hp58o {G : AG} {M : Nat → Nat → Int32} {pl bu : Nat → Int32} {g o x : Int32} {fs : List Value} (e : fs = [.ref 1, .ref 59, .ref 60, .int g, .int o]) : hset (wld G (plM M pl bu g o)) 58 (.inr (3, fs.set 4 (.int x))) = wld G (plM M pl bu g x) := by
  subst e
  refine (hset_wld (i := 58) (r := upd (upd (M 58) 3 g) 4 x) rfl).trans ?_; congr 1; funext i; unfold updM plM
  by_cases h1 : i = 58
  · subst h1; rfl
  · simp [h1]
theorem plM_id {M : Nat → Nat → Int32} : plM M (M 59) (M 60) (M 58 3) (M 58 4) = M := by
  funext i; unfold plM
  by_cases h1 : i = 59
  · subst h1; rfl
  · by_cases h2 : i = 60
    · subst h2; rfl
    · by_cases h3 : i = 58
      · subst h3; simp; funext j; unfold upd; split
        · rename_i h; rw [h]
        · split
          · rename_i h; rw [h]
          · rfl
      · simp [h1, h2, h3]
set_option maxRecDepth 100000 in
set_option maxHeartbeats 4000000 in
theorem c_X3_countGap {G : AG} {M : Nat → Nat → Int32} {n : Nat} (hn : 72 ≤ n) {pl bu : Nat → Int32} {g o : Int32} {nz : Nat} (hz : M 9 5 = nI nz) (hzl : nz ≤ 12) (c x y : Int32) : AMet tX3_countGap yX3_countGap [Cond.code yX3_countGap cX3_countGap 5 none] [.ref 58, .int c, .int x, .int y] (wld G (plM M pl bu g o)) n (PD (.inl none) (wld G (plM M pl bu (if x = -1 then g else g + (y - x)) (if x = -1 then o else if y - x < (sval (seasN (M 10) (M 11) (M 12) c x nz) (M 13) 1) then o + (y - x) else o))) n) := by
  refine am_of (lo := [_, _, _, _, _]) (by decide) rfl (fun q => by cases q) rfl rfl rfl ?_
  refine aw_iload_n dX3_countGap_0 rfl ?_
  refine aw_iconst (v := -1) dX3_countGap_1 (by decide) ?_
  refine aw_icmp_ne 6 dX3_countGap_2 (by decide) (fun c2 => ?_) (fun c2 => ?_)
  · refine aw_iload_n dX3_countGap_6 rfl ?_
    refine aw_iload_n dX3_countGap_7 rfl ?_
    refine aw_isub dX3_countGap_8 ?_
    refine aw_istore (lo' := [_, _, _, _, some (.int _)]) dX3_countGap_9 (by decide) rfl ?_
    refine aw_aload_n dX3_countGap_11 rfl ?_
    refine aw_dup dX3_countGap_12 rfl ?_
    refine aw_get fl_X3_18 dX3_countGap_13 ep_58 (l_58 hn) rfl ?_
    refine aw_iload dX3_countGap_16 rfl ?_
    refine aw_iadd dX3_countGap_18 ?_
    refine aw_put fp_X3_18_m dX3_countGap_19 ep_58 (l_58 hn) (ble' rfl) (fun _ => ⟨rfl, rfl⟩) (hp58g rfl) ?_
    refine aw_iload dX3_countGap_22 rfl ?_
    refine aw_aload_n dX3_countGap_24 rfl ?_
    refine aw_get fl_X3_25 dX3_countGap_25 ep_58 (l_58 hn) rfl ?_
    refine aw_get fl_X3_87 dX3_countGap_28 ep_1 (l_1 hn) rfl ?_
    refine aw_iload_n dX3_countGap_31 rfl ?_
    refine aw_iload_n dX3_countGap_32 rfl ?_
    refine ap_callVi kv_X3_91 ko_X5_minimumOn (c_X5_minimumOn (M := plM M pl bu _ o) hn hz hzl c x) dX3_countGap_33 ep_9 (l_9 hn) rfl rfl rfl rfl (ble' rfl) (by decide) ?_
    refine aw_icmp_ge 50 dX3_countGap_36 (by decide) (fun c36 => ?_) (fun c36 => ?_)
    · have n36 := Int32.not_lt.mpr c36
      refine aw_vret rfl dX3_countGap_50 (ble' rfl) (ble' rfl) ?_
      have q36 : ¬ y - x < (sval (seasN (M 10) (M 11) (M 12) c x nz) (M 13) 1) := n36
      exact pd_v (by rw [if_neg c2, if_neg c2, if_neg q36])
    · have n36 := Int32.not_le.mp c36
      refine aw_aload_n dX3_countGap_39 rfl ?_
      refine aw_dup dX3_countGap_40 rfl ?_
      refine aw_get fl_X3_22 dX3_countGap_41 ep_58 (l_58 hn) rfl ?_
      refine aw_iload dX3_countGap_44 rfl ?_
      refine aw_iadd dX3_countGap_46 ?_
      refine aw_put fp_X3_22_m dX3_countGap_47 ep_58 (l_58 hn) (ble' rfl) (fun _ => ⟨rfl, rfl⟩) (hp58o rfl) ?_
      refine aw_vret rfl dX3_countGap_50 (ble' rfl) (ble' rfl) ?_
      have q36 : y - x < (sval (seasN (M 10) (M 11) (M 12) c x nz) (M 13) 1) := n36
      exact pd_v (by rw [if_neg c2, if_neg c2, if_pos q36])
  · refine aw_vret rfl dX3_countGap_5 (ble' rfl) (ble' rfl) ?_
    exact pd_v (by rw [if_pos c2, if_pos c2])

set_option maxRecDepth 100000 in
set_option maxHeartbeats 4000000 in
theorem lp_X3_nextToPlace {G : AG} {M : Nat → Nat → Int32} {n : Nat} (hn : 72 ≤ n) {pl bu : Nat → Int32} {g o : Int32} {nb : Nat} (hb : M 15 6 = nI nb) (hbl : nb ≤ 60) (c : Int32) : ∀ (j : Nat) (k : Nat) (x3 x4 : Int32), nb - k < j → k ≤ nb → x4 = nI k → x3 = (bestN (nxB (M 16) (M 20) pl c) (fun k b => decide (M 17 k < M 17 b)) k) →  AW tX3_nextToPlace (AQm tX3_nextToPlace (PD (.inl (some (.int (bestN (nxB (M 16) (M 20) pl c) (fun k b => decide (M 17 k < M 17 b)) nb)))) (wld G (plM M pl bu g o)) n)) C0 13 [some (.ref 58), some (.int c), some (.ref 15), some (.int x3), some (.int x4)] [] (wld G (plM M pl bu g o)) n 0 0 := by
  intro j
  induction j with
  | zero => intro k x3 x4 h1 hk h4 h3; omega
  | succ j ih =>
    intro k x3 x4 h1 hk h4 h3
    refine aw_iload dX3_nextToPlace_13 rfl ?_
    refine aw_aload_n dX3_nextToPlace_15 rfl ?_
    refine aw_get fl_X3_45 dX3_nextToPlace_16 ep_15 (l_15 hn) rfl ?_
    refine aw_icmp_ge 87 dX3_nextToPlace_19 (by decide) (fun c19 => ?_) (fun c19 => ?_)
    · have n19 := Int32.not_lt.mpr c19
      refine aw_iload_n dX3_nextToPlace_87 rfl ?_
      refine aw_iret rfl dX3_nextToPlace_88 (ble' rfl) (ble' rfl) ?_
      have hke : k = nb := Nat.le_antisymm hk (le_of_le hb h4 (by omega) (by omega) c19)
      exact pd_i (by rw [h3, hke])
    · have n19 := Int32.not_le.mp c19
      have hlt : k < nb := lt_of_nle hb h4 (by omega) (by omega) c19
      have h60 : k < 60 := by omega
      refine aw_aload_n dX3_nextToPlace_22 rfl ?_
      refine aw_get fl_X3_69 dX3_nextToPlace_23 ep_15 (l_15 hn) rfl ?_
      refine aw_iload dX3_nextToPlace_26 rfl ?_
      refine aw_ialdk dX3_nextToPlace_28 ep_20 (l_20 hn) h4 h60 rfl ?_
      refine aw_if_ne 81 dX3_nextToPlace_29 (by decide) (fun c29 => ?_) (fun c29 => ?_)
      · refine aw_iinc (lo' := [_, _, _, _, some (.int _)]) dX3_nextToPlace_81 rfl (by decide) rfl ?_
        refine aw_goto 13 dX3_nextToPlace_84 (by decide) ?_
        exact ih (k + 1) _ _ (by omega) (by omega) (by rw [h4]; exact inc1 k) (by rw [h3, best_n (by simp [nxB, c29])])
      · refine aw_aload_n dX3_nextToPlace_32 rfl ?_
        refine aw_get fl_X3_72 dX3_nextToPlace_33 ep_15 (l_15 hn) rfl ?_
        refine aw_iload dX3_nextToPlace_36 rfl ?_
        refine aw_ialdk dX3_nextToPlace_38 ep_16 (l_16 hn) h4 h60 rfl ?_
        refine aw_iload_n dX3_nextToPlace_39 rfl ?_
        refine aw_icmp_ne 81 dX3_nextToPlace_40 (by decide) (fun c40 => ?_) (fun c40 => ?_)
        · refine aw_iinc (lo' := [_, _, _, _, some (.int _)]) dX3_nextToPlace_81 rfl (by decide) rfl ?_
          refine aw_goto 13 dX3_nextToPlace_84 (by decide) ?_
          exact ih (k + 1) _ _ (by omega) (by omega) (by rw [h4]; exact inc1 k) (by rw [h3, best_n (by simp [nxB, c29, c40])])
        · refine aw_aload_n dX3_nextToPlace_43 rfl ?_
          refine aw_get fl_X3_9 dX3_nextToPlace_44 ep_58 (l_58 hn) rfl ?_
          refine aw_iload dX3_nextToPlace_47 rfl ?_
          refine aw_ialdk dX3_nextToPlace_49 ep_59 (l_59 hn) h4 h60 rfl ?_
          refine aw_iconst (v := -1) dX3_nextToPlace_50 (by decide) ?_
          refine aw_icmp_eq 57 dX3_nextToPlace_51 (by decide) (fun c51 => ?_) (fun c51 => ?_)
          · refine aw_iload_n dX3_nextToPlace_57 rfl ?_
            refine aw_iconst (v := -1) dX3_nextToPlace_58 (by decide) ?_
            refine aw_icmp_eq 78 dX3_nextToPlace_59 (by decide) (fun c59 => ?_) (fun c59 => ?_)
            · refine aw_iload dX3_nextToPlace_78 rfl ?_
              refine aw_istore_n (lo' := [_, _, _, some (.int _), _]) dX3_nextToPlace_80 (by decide) rfl ?_
              refine aw_iinc (lo' := [_, _, _, _, some (.int _)]) dX3_nextToPlace_81 rfl (by decide) rfl ?_
              refine aw_goto 13 dX3_nextToPlace_84 (by decide) ?_
              exact ih (k + 1) _ _ (by omega) (by omega) (by rw [h4]; exact inc1 k) (by rw [h4, best_t (by simp [nxB, c29, c40, c51]) (Or.inl (by rw [← h3]; exact c59))])
            · obtain ⟨b0, hb0, hx3, -⟩ := (best_in _ _ _).resolve_left (by rw [← h3]; exact c59)
              rw [← h3] at hx3
              refine aw_aload_n dX3_nextToPlace_62 rfl ?_
              refine aw_get fl_X3_54 dX3_nextToPlace_63 ep_15 (l_15 hn) rfl ?_
              refine aw_iload dX3_nextToPlace_66 rfl ?_
              refine aw_ialdk dX3_nextToPlace_68 ep_17 (l_17 hn) h4 h60 rfl ?_
              refine aw_aload_n dX3_nextToPlace_69 rfl ?_
              refine aw_get fl_X3_54 dX3_nextToPlace_70 ep_15 (l_15 hn) rfl ?_
              refine aw_iload_n dX3_nextToPlace_73 rfl ?_
              refine aw_ialdk dX3_nextToPlace_74 ep_17 (l_17 hn) hx3 (by omega) rfl ?_
              refine aw_icmp_ge 81 dX3_nextToPlace_75 (by decide) (fun c75 => ?_) (fun c75 => ?_)
              · have n75 := Int32.not_lt.mpr c75
                refine aw_iinc (lo' := [_, _, _, _, some (.int _)]) dX3_nextToPlace_81 rfl (by decide) rfl ?_
                refine aw_goto 13 dX3_nextToPlace_84 (by decide) ?_
                exact ih (k + 1) _ _ (by omega) (by omega) (by rw [h4]; exact inc1 k) (by rw [h3, best_w (h3.symm.trans hx3) (by omega) (by simp; exact Int32.not_lt.mpr c75 |> Int32.not_lt.mp)])
              · have n75 := Int32.not_le.mp c75
                refine aw_iload dX3_nextToPlace_78 rfl ?_
                refine aw_istore_n (lo' := [_, _, _, some (.int _), _]) dX3_nextToPlace_80 (by decide) rfl ?_
                refine aw_iinc (lo' := [_, _, _, _, some (.int _)]) dX3_nextToPlace_81 rfl (by decide) rfl ?_
                refine aw_goto 13 dX3_nextToPlace_84 (by decide) ?_
                exact ih (k + 1) _ _ (by omega) (by omega) (by rw [h4]; exact inc1 k) (by rw [h4, best_b (by simp [nxB, c29, c40, c51]) (h3.symm.trans hx3) (by omega) (by simp; exact n75)])
          · refine aw_goto 81 dX3_nextToPlace_54 (by decide) ?_
            refine aw_iinc (lo' := [_, _, _, _, some (.int _)]) dX3_nextToPlace_81 rfl (by decide) rfl ?_
            refine aw_goto 13 dX3_nextToPlace_84 (by decide) ?_
            exact ih (k + 1) _ _ (by omega) (by omega) (by rw [h4]; exact inc1 k) (by rw [h3, best_n (by simp [nxB, c29, c40, c51])])

set_option maxRecDepth 100000 in
set_option maxHeartbeats 4000000 in
theorem c_X3_nextToPlace {G : AG} {M : Nat → Nat → Int32} {n : Nat} (hn : 72 ≤ n) {pl bu : Nat → Int32} {g o : Int32} {nb : Nat} (hb : M 15 6 = nI nb) (hbl : nb ≤ 60) (c : Int32) : AMet tX3_nextToPlace yX3_nextToPlace [Cond.code yX3_nextToPlace cX3_nextToPlace 5 (some .int)] [.ref 58, .int c] (wld G (plM M pl bu g o)) n (PD (.inl (some (.int (bestN (nxB (M 16) (M 20) pl c) (fun k b => decide (M 17 k < M 17 b)) nb)))) (wld G (plM M pl bu g o)) n) := by
  refine am_of (lo := [_, _, _, _, _]) (by decide) rfl (fun q => by cases q) rfl rfl rfl ?_
  refine aw_aload_n dX3_nextToPlace_0 rfl ?_
  refine aw_get fl_X3_25 dX3_nextToPlace_1 ep_58 (l_58 hn) rfl ?_
  refine aw_get fl_X3_39 dX3_nextToPlace_4 ep_1 (l_1 hn) rfl ?_
  refine aw_astore_n (lo' := [_, _, some (.ref _), _, _]) dX3_nextToPlace_7 (by decide) rfl ?_
  refine aw_iconst (v := -1) dX3_nextToPlace_8 (by decide) ?_
  refine aw_istore_n (lo' := [_, _, _, some (.int _), _]) dX3_nextToPlace_9 (by decide) rfl ?_
  refine aw_iconst (v := 0) dX3_nextToPlace_10 (by decide) ?_
  refine aw_istore (lo' := [_, _, _, _, some (.int _)]) dX3_nextToPlace_11 (by decide) rfl ?_
  exact lp_X3_nextToPlace hn hb hbl c (nb + 1) 0 _ _ (by omega) (by omega) rfl rfl

set_option maxRecDepth 100000 in
set_option maxHeartbeats 4000000 in
theorem lp_X3_chooseSite {G : AG} {M : Nat → Nat → Int32} {n : Nat} (hn : 72 ≤ n) {pl bu : Nat → Int32} {g o : Int32} {ns : Nat} (hs : M 6 2 = nI ns) (hsl : ns ≤ 16) (c a pol : Int32) : ∀ (j : Nat) (k : Nat) (x5 x6 : Int32), ns - k < j → k ≤ ns → x6 = nI k → x5 = (bestN (chB (M 7) (M 8) bu c a) (fun k b => decide (pol = 1 ∧ bu b < bu k)) k) →  AW tX3_chooseSite (AQm tX3_chooseSite (PD (.inl (some (.int (bestN (chB (M 7) (M 8) bu c a) (fun k b => decide (pol = 1 ∧ bu b < bu k)) ns)))) (wld G (plM M pl bu g o)) n)) C0 15 [some (.ref 58), some (.int c), some (.int a), some (.int pol), some (.ref 6), some (.int x5), some (.int x6)] [] (wld G (plM M pl bu g o)) n 0 0 := by
  intro j
  induction j with
  | zero => intro k x5 x6 h1 hk h6 h5; omega
  | succ j ih =>
    intro k x5 x6 h1 hk h6 h5
    refine aw_iload dX3_chooseSite_15 rfl ?_
    refine aw_aload dX3_chooseSite_17 rfl ?_
    refine aw_get fl_X3_79 dX3_chooseSite_19 ep_6 (l_6 hn) rfl ?_
    refine aw_icmp_ge 100 dX3_chooseSite_22 (by decide) (fun c22 => ?_) (fun c22 => ?_)
    · have n22 := Int32.not_lt.mpr c22
      refine aw_iload dX3_chooseSite_100 rfl ?_
      refine aw_iret rfl dX3_chooseSite_102 (ble' rfl) (ble' rfl) ?_
      have hke : k = ns := Nat.le_antisymm hk (le_of_le hs h6 (by omega) (by omega) c22)
      exact pd_i (by rw [h5, hke])
    · have n22 := Int32.not_le.mp c22
      have hlt : k < ns := lt_of_nle hs h6 (by omega) (by omega) c22
      have h16 : k < 16 := by omega
      refine aw_aload dX3_chooseSite_25 rfl ?_
      refine aw_get fl_X3_82 dX3_chooseSite_27 ep_6 (l_6 hn) rfl ?_
      refine aw_iload dX3_chooseSite_30 rfl ?_
      refine aw_ialdk dX3_chooseSite_32 ep_7 (l_7 hn) h6 h16 rfl ?_
      refine aw_iload_n dX3_chooseSite_33 rfl ?_
      refine aw_icmp_ne 94 dX3_chooseSite_34 (by decide) (fun c34 => ?_) (fun c34 => ?_)
      · refine aw_iinc (lo' := [_, _, _, _, _, _, some (.int _)]) dX3_chooseSite_94 rfl (by decide) rfl ?_
        refine aw_goto 15 dX3_chooseSite_97 (by decide) ?_
        exact ih (k + 1) _ _ (by omega) (by omega) (by rw [h6]; exact inc1 k) (by rw [h5, best_n (by simp [chB, c34])])
      · refine aw_aload dX3_chooseSite_37 rfl ?_
        refine aw_iload dX3_chooseSite_39 rfl ?_
        refine aw_iload_n dX3_chooseSite_41 rfl ?_
        refine ap_callVi kv_X3_83 ko_X7_isClosed (c_X7_isClosed (M := plM M pl bu g o) hn h6 h16) dX3_chooseSite_42 ep_6 (l_6 hn) rfl rfl rfl rfl (ble' rfl) (by decide) ?_
        refine aw_if_ne 94 dX3_chooseSite_45 (by decide) (fun c45 => ?_) (fun c45 => ?_)
        · have n45 := bI_nz.mp c45
          refine aw_iinc (lo' := [_, _, _, _, _, _, some (.int _)]) dX3_chooseSite_94 rfl (by decide) rfl ?_
          refine aw_goto 15 dX3_chooseSite_97 (by decide) ?_
          exact ih (k + 1) _ _ (by omega) (by omega) (by rw [h6]; exact inc1 k) (by rw [h5, best_n (by simp [chB, c34]; intro q; exact absurd n45 (Int32.not_lt.mpr q))])
        · have n45 := bI_z.mp c45
          refine aw_aload_n dX3_chooseSite_48 rfl ?_
          refine aw_get fl_X3_15 dX3_chooseSite_49 ep_58 (l_58 hn) rfl ?_
          refine aw_iload dX3_chooseSite_52 rfl ?_
          refine aw_ialdk dX3_chooseSite_54 ep_60 (l_60 hn) h6 h16 rfl ?_
          refine aw_iload_n dX3_chooseSite_55 rfl ?_
          refine aw_icmp_le 62 dX3_chooseSite_56 (by decide) (fun c56 => ?_) (fun c56 => ?_)
          · have n56 := Int32.not_lt.mpr c56
            refine aw_iload dX3_chooseSite_62 rfl ?_
            refine aw_iconst (v := -1) dX3_chooseSite_64 (by decide) ?_
            refine aw_icmp_eq 90 dX3_chooseSite_65 (by decide) (fun c65 => ?_) (fun c65 => ?_)
            · refine aw_iload dX3_chooseSite_90 rfl ?_
              refine aw_istore (lo' := [_, _, _, _, _, some (.int _), _]) dX3_chooseSite_92 (by decide) rfl ?_
              refine aw_iinc (lo' := [_, _, _, _, _, _, some (.int _)]) dX3_chooseSite_94 rfl (by decide) rfl ?_
              refine aw_goto 15 dX3_chooseSite_97 (by decide) ?_
              exact ih (k + 1) _ _ (by omega) (by omega) (by rw [h6]; exact inc1 k) (by rw [h6, best_t (by simp [chB, c34, c56]; exact Int32.not_lt.mp n45) (Or.inl (by rw [← h5]; exact c65))])
            · refine aw_iload_n dX3_chooseSite_68 rfl ?_
              refine aw_iconst (v := 1) dX3_chooseSite_69 (by decide) ?_
              refine aw_icmp_ne 94 dX3_chooseSite_70 (by decide) (fun c70 => ?_) (fun c70 => ?_)
              · refine aw_iinc (lo' := [_, _, _, _, _, _, some (.int _)]) dX3_chooseSite_94 rfl (by decide) rfl ?_
                refine aw_goto 15 dX3_chooseSite_97 (by decide) ?_
                exact ih (k + 1) _ _ (by omega) (by omega) (by rw [h6]; exact inc1 k) (by obtain ⟨b0, hb0, hx5, -⟩ := (best_in (chB (M 7) (M 8) bu c a) (fun k b => decide (pol = 1 ∧ bu b < bu k)) k).resolve_left (by rw [← h5]; exact c65); rw [h5, best_w hx5 (by omega) (by simp [c70])])
              · obtain ⟨b0, hb0, hx5, -⟩ := (best_in _ _ _).resolve_left (by rw [← h5]; exact c65)
                rw [← h5] at hx5
                refine aw_aload_n dX3_chooseSite_73 rfl ?_
                refine aw_get fl_X3_15 dX3_chooseSite_74 ep_58 (l_58 hn) rfl ?_
                refine aw_iload dX3_chooseSite_77 rfl ?_
                refine aw_ialdk dX3_chooseSite_79 ep_60 (l_60 hn) h6 h16 rfl ?_
                refine aw_aload_n dX3_chooseSite_80 rfl ?_
                refine aw_get fl_X3_15 dX3_chooseSite_81 ep_58 (l_58 hn) rfl ?_
                refine aw_iload dX3_chooseSite_84 rfl ?_
                refine aw_ialdk dX3_chooseSite_86 ep_60 (l_60 hn) hx5 (by omega) rfl ?_
                refine aw_icmp_le 94 dX3_chooseSite_87 (by decide) (fun c87 => ?_) (fun c87 => ?_)
                · have n87 := Int32.not_lt.mpr c87
                  refine aw_iinc (lo' := [_, _, _, _, _, _, some (.int _)]) dX3_chooseSite_94 rfl (by decide) rfl ?_
                  refine aw_goto 15 dX3_chooseSite_97 (by decide) ?_
                  exact ih (k + 1) _ _ (by omega) (by omega) (by rw [h6]; exact inc1 k) (by rw [h5, best_w (h5.symm.trans hx5) (by omega) (by simp [c70]; exact c87)])
                · have n87 := Int32.not_le.mp c87
                  refine aw_iload dX3_chooseSite_90 rfl ?_
                  refine aw_istore (lo' := [_, _, _, _, _, some (.int _), _]) dX3_chooseSite_92 (by decide) rfl ?_
                  refine aw_iinc (lo' := [_, _, _, _, _, _, some (.int _)]) dX3_chooseSite_94 rfl (by decide) rfl ?_
                  refine aw_goto 15 dX3_chooseSite_97 (by decide) ?_
                  exact ih (k + 1) _ _ (by omega) (by omega) (by rw [h6]; exact inc1 k) (by rw [h6, best_b (by simp [chB, c34, c56]; exact Int32.not_lt.mp n45) (h5.symm.trans hx5) (by omega) (by simp [c70]; exact n87)])
          · have n56 := Int32.not_le.mp c56
            refine aw_goto 94 dX3_chooseSite_59 (by decide) ?_
            refine aw_iinc (lo' := [_, _, _, _, _, _, some (.int _)]) dX3_chooseSite_94 rfl (by decide) rfl ?_
            refine aw_goto 15 dX3_chooseSite_97 (by decide) ?_
            exact ih (k + 1) _ _ (by omega) (by omega) (by rw [h6]; exact inc1 k) (by rw [h5, best_n (by simp [chB, c34]; intro _; exact n56)])

set_option maxRecDepth 100000 in
set_option maxHeartbeats 4000000 in
theorem c_X3_chooseSite {G : AG} {M : Nat → Nat → Int32} {n : Nat} (hn : 72 ≤ n) {pl bu : Nat → Int32} {g o : Int32} {ns : Nat} (hs : M 6 2 = nI ns) (hsl : ns ≤ 16) (c a pol : Int32) : AMet tX3_chooseSite yX3_chooseSite [Cond.code yX3_chooseSite cX3_chooseSite 7 (some .int)] [.ref 58, .int c, .int a, .int pol] (wld G (plM M pl bu g o)) n (PD (.inl (some (.int (bestN (chB (M 7) (M 8) bu c a) (fun k b => decide (pol = 1 ∧ bu b < bu k)) ns)))) (wld G (plM M pl bu g o)) n) := by
  refine am_of (lo := [_, _, _, _, _, _, _]) (by decide) rfl (fun q => by cases q) rfl rfl rfl ?_
  refine aw_aload_n dX3_chooseSite_0 rfl ?_
  refine aw_get fl_X3_25 dX3_chooseSite_1 ep_58 (l_58 hn) rfl ?_
  refine aw_get fl_X3_75 dX3_chooseSite_4 ep_1 (l_1 hn) rfl ?_
  refine aw_astore (lo' := [_, _, _, _, some (.ref _), _, _]) dX3_chooseSite_7 (by decide) rfl ?_
  refine aw_iconst (v := -1) dX3_chooseSite_9 (by decide) ?_
  refine aw_istore (lo' := [_, _, _, _, _, some (.int _), _]) dX3_chooseSite_10 (by decide) rfl ?_
  refine aw_iconst (v := 0) dX3_chooseSite_12 (by decide) ?_
  refine aw_istore (lo' := [_, _, _, _, _, _, some (.int _)]) dX3_chooseSite_13 (by decide) rfl ?_
  exact lp_X3_chooseSite hn hs hsl c a pol (ns + 1) 0 _ _ (by omega) (by omega) rfl rfl
