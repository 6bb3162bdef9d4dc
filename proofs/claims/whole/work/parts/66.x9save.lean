theorem ent_s {a a' : Nat → Option Nat} {w : Int64 × Int64} {i : Nat} {r : Nat → Int32} (h : i ≠ 55) : ent (a, w) i r = ent (a', w) i r := by
  unfold ent
  by_cases h1 : i < 63
  · by_cases h2 : i < 56
    · simp only [if_pos h1, if_pos (show i < 55 by omega), if_pos h2]
    · simp only [if_pos h1, if_neg h2, if_neg (show ¬ i < 55 by omega)]
  · simp only [if_neg h1]
theorem hs55 {G : AG} {M : Nat → Nat → Int32} {a : Nat → Option Nat} : hset (wld G M) 55 (.inl (4, 2, .inr (.inr (.inr (.inr a))))) = wld (a, G.2) M := by
  funext i
  unfold hset wld
  by_cases h : i = 55
  · subst h; rfl
  · rw [if_neg h]; exact ent_s h
theorem aw_astq {T : ATy} {Q : AQ} {CX : AC} {pc : Nat} {lo : List (Option Value)} {st : List Value} {h h' : Nat → AE} {n ce sl i len v : Nat} {f : Nat → Option Nat} {fs : List Value} {j : Int32} (hd : decode T.2.1 pc = .ok (.aastore, 1)) (he : h i = .inl (4, len, .inr (.inr (.inr (.inr f))))) (hi : i < n) (hv : h v = .inr (1, fs)) (hvn : v < n) (hj : vp_in j len) (hh : hset h i (.inl (4, len, .inr (.inr (.inr (.inr (va_up f j.toNatClampNeg (some v))))))) = h') (kk : AW T Q CX (pc + 1) lo st h' n ce sl) : AW T Q CX pc lo (.ref v :: .int j :: .ref i :: st) h n ce sl := by
  intro p l e1 s m args below meth c H locs ls ad kc D z A hF hC hD
  refine va_astq (D := D) (cl := vwCl) (tys := tysOf kc) (ws := cW ad kc h n) hF.1 hF.2.1 hD.1 hD.2.1 hD.2.2.1 hD.2.2.2.1 i 4 v 1 (cW_getE hi he rfl) rfl (cW_getE hvn hv rfl) rfl hj hd ?_
  intro H1 locs1 hP1 hD1 hS1
  exact kk p l e1 s m args below meth c H1 locs1 ls ad kc D z A hF hC (hD.put hi hh (by
    show Sum.inl (kc 4, len, Sum.inr (Sum.inr (Sum.inr (Sum.inr (fun q => (va_up f j.toNatClampNeg (some v) q).map ad))))) = _
    congr 7
    funext q
    unfold va_up
    split <;> rfl) hP1 hD1 hS1)
theorem aw_hc {T : ATy} {Q : AQ} {CX : AC} {pc : Nat} {lo : List (Option Value)} {st : List Value} {h h' : Nat → AE} {n ce sl : Nat} (e : ∀ i, i < n → h i = h' i) (kk : AW T Q CX pc lo st h' n ce sl) : AW T Q CX pc lo st h n ce sl := by
  intro p l e1 s m args below meth c H locs ls ad kc D z A hF hC hD
  refine kk p l e1 s m args below meth c H locs ls ad kc D z A hF hC ?_
  obtain ⟨k1, k2, k3, k4⟩ := hD
  rw [cW_congr e] at k2 k3
  exact ⟨k1, k2, k3, k4⟩
/-- which camps are saved where -/
def GS (G : AG) (n : Nat) : Prop := n ≤ 800000 ∧ ∀ k, G.1 k = none ∨ (G.1 k = some 72 ∧ 99 ≤ n) ∨ (G.1 k = some 99 ∧ 126 ≤ n)
def cd_restore (G : AG) (x : Int32) : Nat := if (x < 0 ∨ 1 < x) then 1 else if G.1 x.toNatClampNeg = none then 2 else 0
def rsC (G : AG) (M : Nat → Nat → Int32) (k : Nat) : Nat → Nat → Int32 := if G.1 k = some 72 then cp_1_72 M else cp_1_99 M
set_option maxRecDepth 100000 in
set_option maxHeartbeats 4000000 in
theorem c_X9_restore {G : AG} {M : Nat → Nat → Int32} {n : Nat} (hn : 72 ≤ n) (hG : GS G n) (x : Int32) : AMet tX9_restore yX9_restore [Cond.code yX9_restore cX9_restore 3 none] [.ref 0, .int x] (wld G M) n (PO ["java/lang/IllegalArgumentException", "java/lang/IllegalStateException"] (cd_restore G x) none G M (rsC G M x.toNatClampNeg) n) := by
  refine am_of (lo := [_, _, _]) (by decide) rfl (fun q => by cases q) rfl rfl rfl ?_
  refine aw_iload_n dX9_restore_0 rfl ?_
  refine aw_iconst (v := 0) dX9_restore_1 (by decide) ?_
  refine aw_iconst (v := 1) dX9_restore_2 (by decide) ?_
  refine ap_chkS kw_X9_56 ks_X9_56 ko_X9_checkRange (c_X9_checkRange _ _ _) dX9_restore_3 rfl rfl (ble' rfl) (by decide) (fun q => po_e 0 (by rw [cd_restore, if_pos q]) rfl seq_rf) (fun b3 => ?_)
  obtain ⟨k, hk2, hsk⟩ := day_of (show (1 : Int32) = nI 1 from rfl) (by decide) (show 0 ≤ x ∧ x ≤ 1 from ⟨Int32.not_lt.mp (fun q => b3 (Or.inl q)), Int32.not_lt.mp (fun q => b3 (Or.inr q))⟩)
  refine aw_aload_n dX9_restore_6 rfl ?_
  refine aw_get fl_X9_19 dX9_restore_7 e_0 (l_0 hn) rfl ?_
  refine aw_iload_n dX9_restore_10 rfl ?_
  refine aw_aald dX9_restore_11 e_55 (l_55 hn) (in_of hsk (show k < 2 by omega) (by decide)) ?_
  rw [cl_of hsk (by omega)]
  rcases hG.2 k with hg | ⟨hg, hn9⟩ | ⟨hg, hn9⟩ <;> rw [hg]
  · show AW _ _ _ _ _ (.null :: _) _ _ _ _
    refine aw_astore_nN (lo' := [_, _, some .null]) dX9_restore_12 (by decide) rfl ?_
    refine aw_aload_nN dX9_restore_13 rfl ?_
    refine aw_ifnonnullN dX9_restore_14 ?_
    refine aw_throwSW tx_296 dX9_restore_17 dX9_restore_20 dX9_restore_21 dX9_restore_24 dX9_restore_27 ⟨by decide, ble' rfl, by decide, by decide⟩ ?_
    exact po_e 1 (by rw [cd_restore, if_neg b3, if_pos (by rw [cl_of hsk (by omega)]; exact hg)]) rfl seq_rf
  · show AW _ _ _ _ _ (.ref 72 :: _) _ _ _ _
    refine aw_astore_n (lo' := [_, _, some (.ref _)]) dX9_restore_12 (by decide) rfl ?_
    refine aw_aload_n dX9_restore_13 rfl ?_
    refine aw_ifnonnull 28 dX9_restore_14 (by decide) ?_
    refine aw_aload_n dX9_restore_28 rfl ?_
    refine aw_get fl_X9_10 dX9_restore_29 e_0 (l_0 hn) rfl ?_
    refine aw_aload_n dX9_restore_32 rfl ?_
    refine ap_callVv kv_X9_287 ko_X1_copyFrom (c_X1_copyFrom_1_72 hn9) dX9_restore_33 e_1 (l_1 hn) rfl rfl rfl rfl (ble' rfl) (by decide) ?_
    refine aw_vret rfl dX9_restore_36 (ble' rfl) (ble' rfl) ?_
    exact po_r (by rw [cd_restore, if_neg b3, if_neg (by rw [cl_of hsk (by omega), hg]; decide)]) rfl (by rw [rsC, if_pos hg]; exact seq_rf)
  · show AW _ _ _ _ _ (.ref 99 :: _) _ _ _ _
    refine aw_astore_n (lo' := [_, _, some (.ref _)]) dX9_restore_12 (by decide) rfl ?_
    refine aw_aload_n dX9_restore_13 rfl ?_
    refine aw_ifnonnull 28 dX9_restore_14 (by decide) ?_
    refine aw_aload_n dX9_restore_28 rfl ?_
    refine aw_get fl_X9_10 dX9_restore_29 e_0 (l_0 hn) rfl ?_
    refine aw_aload_n dX9_restore_32 rfl ?_
    refine ap_callVv kv_X9_287 ko_X1_copyFrom (c_X1_copyFrom_1_99 hn9) dX9_restore_33 e_1 (l_1 hn) rfl rfl rfl rfl (ble' rfl) (by decide) ?_
    refine aw_vret rfl dX9_restore_36 (ble' rfl) (ble' rfl) ?_
    exact po_r (by rw [cd_restore, if_neg b3, if_neg (by rw [cl_of hsk (by omega), hg]; decide)]) rfl (by rw [rsC, if_neg (by rw [hg]; decide)]; exact seq_rf)

theorem cw_0 {G : AG} {M : Nat → Nat → Int32} {n : Nat} (hn : 72 ≤ n) (hG : ∀ k r, G.1 k = some r → r < n ∨ 900000 ≤ r) : ∀ i, i < 72 → clE n (wld G M i)
  | 0, _ => (sc_r (by omega) (sc_r (by omega) (sc_r (by omega) (sc_r (by omega) (sc_r (by omega) (sc_r (by omega) (sc_r (by omega) (sc_i sc_nil))))))))
  | 1, _ => (sc_r (by omega) (sc_r (by omega) (sc_r (by omega) (sc_r (by omega) (sc_r (by omega) (sc_i sc_nil))))))
  | 2, _ => (sc_r (by omega) (sc_r (by omega) (sc_r (by omega) (sc_i sc_nil))))
  | 3, _ => trivial
  | 4, _ => trivial
  | 5, _ => trivial
  | 6, _ => (sc_r (by omega) (sc_r (by omega) (sc_i sc_nil)))
  | 7, _ => trivial
  | 8, _ => trivial
  | 9, _ => (sc_r (by omega) (sc_r (by omega) (sc_r (by omega) (sc_r (by omega) (sc_r (by omega) (sc_i sc_nil))))))
  | 10, _ => trivial
  | 11, _ => trivial
  | 12, _ => trivial
  | 13, _ => trivial
  | 14, _ => trivial
  | 15, _ => (sc_r (by omega) (sc_r (by omega) (sc_r (by omega) (sc_r (by omega) (sc_r (by omega) (sc_r (by omega) (sc_i sc_nil)))))))
  | 16, _ => trivial
  | 17, _ => trivial
  | 18, _ => trivial
  | 19, _ => trivial
  | 20, _ => trivial
  | 21, _ => trivial
  | 22, _ => (sc_r (by omega) (sc_r (by omega) (sc_r (by omega) (sc_r (by omega) (sc_r (by omega) (sc_i sc_nil))))))
  | 23, _ => trivial
  | 24, _ => trivial
  | 25, _ => trivial
  | 26, _ => trivial
  | 27, _ => trivial
  | 28, _ => (sc_r (by omega) (sc_r (by omega) (sc_r (by omega) (sc_r (by omega) (sc_r (by omega) (sc_i sc_nil))))))
  | 29, _ => (sc_r (by omega) (sc_r (by omega) (sc_r (by omega) (sc_i sc_nil))))
  | 30, _ => trivial
  | 31, _ => trivial
  | 32, _ => trivial
  | 33, _ => (sc_r (by omega) (sc_r (by omega) (sc_i sc_nil)))
  | 34, _ => trivial
  | 35, _ => trivial
  | 36, _ => (sc_r (by omega) (sc_r (by omega) (sc_r (by omega) (sc_r (by omega) (sc_r (by omega) (sc_i sc_nil))))))
  | 37, _ => trivial
  | 38, _ => trivial
  | 39, _ => trivial
  | 40, _ => trivial
  | 41, _ => trivial
  | 42, _ => (sc_r (by omega) (sc_r (by omega) (sc_r (by omega) (sc_r (by omega) (sc_r (by omega) (sc_r (by omega) (sc_i sc_nil)))))))
  | 43, _ => trivial
  | 44, _ => trivial
  | 45, _ => trivial
  | 46, _ => trivial
  | 47, _ => trivial
  | 48, _ => trivial
  | 49, _ => (sc_r (by omega) (sc_r (by omega) (sc_r (by omega) (sc_r (by omega) (sc_r (by omega) (sc_i sc_nil))))))
  | 50, _ => trivial
  | 51, _ => trivial
  | 52, _ => trivial
  | 53, _ => trivial
  | 54, _ => trivial
  | 55, _ => (fun j r q => hG j r q)
  | 56, _ => (sc_r (by omega) (sc_r (by omega) (sc_i sc_nil)))
  | 57, _ => trivial
  | 58, _ => (sc_r (by omega) (sc_r (by omega) (sc_r (by omega) (sc_i (sc_i sc_nil)))))
  | 59, _ => trivial
  | 60, _ => trivial
  | 61, _ => trivial
  | 62, _ => (sc_r (by omega) (sc_r (by omega) (sc_i (sc_i (sc_i (sc_i (sc_i (sc_i (sc_i sc_nil)))))))))
  | 63, _ => (sc_r (by omega) (sc_r (by omega) (sc_r (by omega) (sc_r (by omega) (sc_i (sc_r (by omega) (sc_r (by omega) (sc_i (sc_i (sc_r (by omega) (sc_i (sc_i (sc_i (sc_i (sc_i (sc_i (sc_i (sc_i (sc_l sc_nil)))))))))))))))))))
  | 64, _ => trivial
  | 65, _ => trivial
  | 66, _ => trivial
  | 67, _ => trivial
  | 68, _ => trivial
  | 69, _ => trivial
  | 70, _ => trivial
  | 71, _ => trivial
  | k + 72, h => absurd h (by omega)
theorem cw_72 {G : AG} {M : Nat → Nat → Int32} {n : Nat} (hn : 99 ≤ n) (hG : ∀ k r, G.1 k = some r → r < n ∨ 900000 ≤ r) : ∀ i, i < 27 → clE n (wld G M (i + 72))
  | 0, _ => (sc_r (by omega) (sc_r (by omega) (sc_r (by omega) (sc_r (by omega) (sc_r (by omega) (sc_i sc_nil))))))
  | 1, _ => (sc_r (by omega) (sc_r (by omega) (sc_r (by omega) (sc_i sc_nil))))
  | 2, _ => trivial
  | 3, _ => trivial
  | 4, _ => trivial
  | 5, _ => (sc_r (by omega) (sc_r (by omega) (sc_i sc_nil)))
  | 6, _ => trivial
  | 7, _ => trivial
  | 8, _ => (sc_r (by omega) (sc_r (by omega) (sc_r (by omega) (sc_r (by omega) (sc_r (by omega) (sc_i sc_nil))))))
  | 9, _ => trivial
  | 10, _ => trivial
  | 11, _ => trivial
  | 12, _ => trivial
  | 13, _ => trivial
  | 14, _ => (sc_r (by omega) (sc_r (by omega) (sc_r (by omega) (sc_r (by omega) (sc_r (by omega) (sc_r (by omega) (sc_i sc_nil)))))))
  | 15, _ => trivial
  | 16, _ => trivial
  | 17, _ => trivial
  | 18, _ => trivial
  | 19, _ => trivial
  | 20, _ => trivial
  | 21, _ => (sc_r (by omega) (sc_r (by omega) (sc_r (by omega) (sc_r (by omega) (sc_r (by omega) (sc_i sc_nil))))))
  | 22, _ => trivial
  | 23, _ => trivial
  | 24, _ => trivial
  | 25, _ => trivial
  | 26, _ => trivial
  | k + 27, h => absurd h (by omega)
theorem hc_wld {G : AG} {M : Nat → Nat → Int32} {n : Nat} (hG : GS G n) (h : n = 72 ∨ n = 99) : HC (wld G M) n := by
  have hg : ∀ k r, G.1 k = some r → r < n ∨ 900000 ≤ r := by
    intro k r q
    rcases hG.2 k with e | ⟨e, h9⟩ | ⟨e, h9⟩ <;> rw [e] at q <;> cases q <;> omega
  intro i hi
  rcases Nat.lt_or_ge i 72 with q | q
  · exact cw_0 (by omega) hg i q
  · have := cw_72 (M := M) (show 99 ≤ n by omega) hg (i - 72) (by omega)
    rw [Nat.sub_add_cancel q] at this
    exact this
def z27 (M : Nat → Nat → Int32) (b : Nat) : Nat → Nat → Int32 := fun i => if b ≤ i ∧ i < b + 27 then fun _ => 0 else M i
def cd_save (x : Int32) : Nat := if (x < 0 ∨ 1 < x) then 1 else 0
def cpB (b : Nat) (M : Nat → Nat → Int32) : Nat → Nat → Int32 := if b = 72 then cp_72_1 M else cp_99_1 M
/-- how save ends -/
def PSv (G : AG) (M : Nat → Nat → Int32) (x : Int32) (n : Nat) : APost := fun o h' n' => (cd_save x = 1 ∧ o = .inr "java/lang/IllegalArgumentException" ∧ h' = wld G M ∧ n' = n) ∨ (cd_save x = 0 ∧ o = .inl none ∧ ∃ b M0, h' = wld (va_up G.1 x.toNatClampNeg (some b), G.2) (cpB b M0) ∧ ((G.1 x.toNatClampNeg = some b ∧ n' = n ∧ M0 = M) ∨ (G.1 x.toNatClampNeg = none ∧ b = n ∧ n' = n + 27 ∧ M0 = z27 M n)) ∧ (b = 72 ∨ b = 99))
theorem at_w_72 {G : AG} {M : Nat → Nat → Int32} {h : Nat → AE} (ha : At_X1 h 72) : ∀ j, j < 27 → h (72 + j) = wld G (z27 M 72) (72 + j)
  | 0, _ => ha.1
  | 1, _ => ha.2.1.1
  | 2, _ => ha.2.1.2.1
  | 3, _ => ha.2.1.2.2.1
  | 4, _ => ha.2.1.2.2.2
  | 5, _ => ha.2.2.1.1
  | 6, _ => ha.2.2.1.2.1
  | 7, _ => ha.2.2.1.2.2
  | 8, _ => ha.2.2.2.1.1
  | 9, _ => ha.2.2.2.1.2.1
  | 10, _ => ha.2.2.2.1.2.2.1
  | 11, _ => ha.2.2.2.1.2.2.2.1
  | 12, _ => ha.2.2.2.1.2.2.2.2.1
  | 13, _ => ha.2.2.2.1.2.2.2.2.2
  | 14, _ => ha.2.2.2.2.1.1
  | 15, _ => ha.2.2.2.2.1.2.1
  | 16, _ => ha.2.2.2.2.1.2.2.1
  | 17, _ => ha.2.2.2.2.1.2.2.2.1
  | 18, _ => ha.2.2.2.2.1.2.2.2.2.1
  | 19, _ => ha.2.2.2.2.1.2.2.2.2.2.1
  | 20, _ => ha.2.2.2.2.1.2.2.2.2.2.2
  | 21, _ => ha.2.2.2.2.2.1
  | 22, _ => ha.2.2.2.2.2.2.1
  | 23, _ => ha.2.2.2.2.2.2.2.1
  | 24, _ => ha.2.2.2.2.2.2.2.2.1
  | 25, _ => ha.2.2.2.2.2.2.2.2.2.1
  | 26, _ => ha.2.2.2.2.2.2.2.2.2.2
  | k + 27, h => absurd h (by omega)
theorem at_wld_72 {G : AG} {M : Nat → Nat → Int32} {h : Nat → AE} (ha : At_X1 h 72) (ho : ∀ i, i < 72 → h i = wld G M i) : ∀ i, i < 99 → h i = wld G (z27 M 72) i := by
  intro i hi
  rcases Nat.lt_or_ge i 72 with q | q
  · rw [ho i q]; unfold wld z27; rw [if_neg (by omega)]
  · obtain ⟨j, rfl⟩ : ∃ j, i = 72 + j := ⟨i - 72, by omega⟩
    exact at_w_72 ha j (by omega)
theorem at_w_99 {G : AG} {M : Nat → Nat → Int32} {h : Nat → AE} (ha : At_X1 h 99) : ∀ j, j < 27 → h (99 + j) = wld G (z27 M 99) (99 + j)
  | 0, _ => ha.1
  | 1, _ => ha.2.1.1
  | 2, _ => ha.2.1.2.1
  | 3, _ => ha.2.1.2.2.1
  | 4, _ => ha.2.1.2.2.2
  | 5, _ => ha.2.2.1.1
  | 6, _ => ha.2.2.1.2.1
  | 7, _ => ha.2.2.1.2.2
  | 8, _ => ha.2.2.2.1.1
  | 9, _ => ha.2.2.2.1.2.1
  | 10, _ => ha.2.2.2.1.2.2.1
  | 11, _ => ha.2.2.2.1.2.2.2.1
  | 12, _ => ha.2.2.2.1.2.2.2.2.1
  | 13, _ => ha.2.2.2.1.2.2.2.2.2
  | 14, _ => ha.2.2.2.2.1.1
  | 15, _ => ha.2.2.2.2.1.2.1
  | 16, _ => ha.2.2.2.2.1.2.2.1
  | 17, _ => ha.2.2.2.2.1.2.2.2.1
  | 18, _ => ha.2.2.2.2.1.2.2.2.2.1
  | 19, _ => ha.2.2.2.2.1.2.2.2.2.2.1
  | 20, _ => ha.2.2.2.2.1.2.2.2.2.2.2
  | 21, _ => ha.2.2.2.2.2.1
  | 22, _ => ha.2.2.2.2.2.2.1
  | 23, _ => ha.2.2.2.2.2.2.2.1
  | 24, _ => ha.2.2.2.2.2.2.2.2.1
  | 25, _ => ha.2.2.2.2.2.2.2.2.2.1
  | 26, _ => ha.2.2.2.2.2.2.2.2.2.2
  | k + 27, h => absurd h (by omega)
theorem at_wld_99 {G : AG} {M : Nat → Nat → Int32} {h : Nat → AE} (ha : At_X1 h 99) (ho : ∀ i, i < 99 → h i = wld G M i) : ∀ i, i < 126 → h i = wld G (z27 M 99) i := by
  intro i hi
  rcases Nat.lt_or_ge i 99 with q | q
  · rw [ho i q]; unfold wld z27; rw [if_neg (by omega)]
  · obtain ⟨j, rfl⟩ : ∃ j, i = 99 + j := ⟨i - 99, by omega⟩
    exact at_w_99 ha j (by omega)
set_option maxRecDepth 100000 in
set_option maxHeartbeats 4000000 in
theorem c_X9_save {G : AG} {M : Nat → Nat → Int32} {n : Nat} (hn : 72 ≤ n) (hG : GS G n) (x : Int32) (hf : G.1 x.toNatClampNeg = none → n = 72 ∨ n = 99) : AMet tX9_save yX9_save [Cond.code yX9_save cX9_save 3 none] [.ref 0, .int x] (wld G M) n (PSv G M x n) := by
  refine am_of (lo := [_, _, _]) (by decide) rfl (fun q => by cases q) rfl rfl rfl ?_
  refine aw_iload_n dX9_save_0 rfl ?_
  refine aw_iconst (v := 0) dX9_save_1 (by decide) ?_
  refine aw_iconst (v := 1) dX9_save_2 (by decide) ?_
  refine ap_chkS kw_X9_56 ks_X9_56 ko_X9_checkRange (c_X9_checkRange _ _ _) dX9_save_3 rfl rfl (ble' rfl) (by decide) (fun q => Or.inl ⟨by rw [cd_save, if_pos q], rfl, rfl, rfl⟩) (fun b3 => ?_)
  obtain ⟨k, hk2, hsk⟩ := day_of (show (1 : Int32) = nI 1 from rfl) (by decide) (show 0 ≤ x ∧ x ≤ 1 from ⟨Int32.not_lt.mp (fun q => b3 (Or.inl q)), Int32.not_lt.mp (fun q => b3 (Or.inr q))⟩)
  refine aw_aload_n dX9_save_6 rfl ?_
  refine aw_get fl_X9_19 dX9_save_7 e_0 (l_0 hn) rfl ?_
  refine aw_iload_n dX9_save_10 rfl ?_
  refine aw_aald dX9_save_11 e_55 (l_55 hn) (in_of hsk (show k < 2 by omega) (by decide)) ?_
  rw [cl_of hsk (by omega)]
  have hgg := hG.2 k
  have hx0 : cd_save x = 0 := by rw [cd_save, if_neg b3]
  have hxk : x.toNatClampNeg = k := cl_of hsk (by omega)
  rw [hxk] at hf
  rcases hgg with hg | ⟨hg, hn9⟩ | ⟨hg, hn9⟩ <;> rw [hg]
  · show AW _ _ _ _ _ (.null :: _) _ _ _ _
    refine aw_astore_nN (lo' := [_, _, some .null]) dX9_save_12 (by decide) rfl ?_
    refine aw_aload_nN dX9_save_13 rfl ?_
    refine aw_ifnonnullN dX9_save_14 ?_
    have hn2 := hf hg
    refine aw_lo2 (lo' := [some (.ref 0), some (.int x), none]) ⟨rfl, rfl, trivial⟩ ?_
    refine aw_new nw_X9_7 dX9_save_17 (hc_wld hG hn2) (by omega) (lc_r (by omega) (lc_i (lc_n lc_nil))) sc_nil (by decide) (by decide) ?_
    obtain ⟨h1, q1⟩ : ∃ y9, y9 = hset (wld G M) n (.inr (1, [.null, .null, .null, .null, .null, .int 0])) := ⟨_, rfl⟩
    have C1 : HC h1 (n + 1) := by rw [q1]; exact HC.new (hc_wld hG hn2) (sc_0 (sc_0 (sc_0 (sc_0 (sc_0 (sc_i sc_nil))))))
    refine aw_heq q1.symm ?_
    refine aw_dup dX9_save_20 rfl ?_
    refine aw_callI ki_X9_9 ko_X1_init (c_X1_init (b := n) (by omega) (by rw [q1]; exact hset_s) C1) dX9_save_21 rfl rfl (ble' rfl) (by decide) (lc_r (by omega) (lc_i (lc_n lc_nil))) (sc_r (by omega) sc_nil) (fun E h' n' q => by cases q.1) (fun v h' n' hp _ _ => ?_)
    obtain ⟨hv, rfl, C2, oo, a2⟩ := hp
    cases hv
    have ho : ∀ i, i < n → h' i = wld G M i := fun i hi => (oo i hi).trans (by rw [q1]; exact hset_n (by omega))
    rcases hn2 with rfl | rfl
    · refine aw_hc (at_wld_72 a2 ho) ?_
      refine aw_astore_n (lo' := [_, _, some (.ref _)]) dX9_save_24 (by decide) rfl ?_
      refine aw_aload_n dX9_save_25 rfl ?_
      refine aw_get fl_X9_19 dX9_save_26 e_0 (by decide) rfl ?_
      refine aw_iload_n dX9_save_29 rfl ?_
      refine aw_aload_n dX9_save_30 rfl ?_
      refine aw_astq dX9_save_31 e_55 (by decide) e_72 (by decide) (in_of hsk (show k < 2 by omega) (by decide)) hs55 ?_
      rw [hxk]
      refine aw_aload_n dX9_save_32 rfl ?_
      refine aw_aload_n dX9_save_33 rfl ?_
      refine aw_get fl_X9_10 dX9_save_34 e_0 (by decide) rfl ?_
      refine ap_callVv kv_X9_287 ko_X1_copyFrom (c_X1_copyFrom_72_1 (Nat.le_refl _)) dX9_save_37 e_72 (by decide) rfl rfl rfl rfl (ble' rfl) (by decide) ?_
      refine aw_vret rfl dX9_save_40 (ble' rfl) (ble' rfl) ?_
      exact Or.inr ⟨hx0, rfl, 72, z27 M 72, by rw [hxk]; rfl, Or.inr ⟨by rw [hxk]; exact hg, rfl, rfl, rfl⟩, Or.inl rfl⟩
    · refine aw_hc (at_wld_99 a2 ho) ?_
      refine aw_astore_n (lo' := [_, _, some (.ref _)]) dX9_save_24 (by decide) rfl ?_
      refine aw_aload_n dX9_save_25 rfl ?_
      refine aw_get fl_X9_19 dX9_save_26 e_0 (by decide) rfl ?_
      refine aw_iload_n dX9_save_29 rfl ?_
      refine aw_aload_n dX9_save_30 rfl ?_
      refine aw_astq dX9_save_31 e_55 (by decide) e_99 (by decide) (in_of hsk (show k < 2 by omega) (by decide)) hs55 ?_
      rw [hxk]
      refine aw_aload_n dX9_save_32 rfl ?_
      refine aw_aload_n dX9_save_33 rfl ?_
      refine aw_get fl_X9_10 dX9_save_34 e_0 (by decide) rfl ?_
      refine ap_callVv kv_X9_287 ko_X1_copyFrom (c_X1_copyFrom_99_1 (Nat.le_refl _)) dX9_save_37 e_99 (by decide) rfl rfl rfl rfl (ble' rfl) (by decide) ?_
      refine aw_vret rfl dX9_save_40 (ble' rfl) (ble' rfl) ?_
      exact Or.inr ⟨hx0, rfl, 99, z27 M 99, by rw [hxk]; rfl, Or.inr ⟨by rw [hxk]; exact hg, rfl, rfl, rfl⟩, Or.inr rfl⟩
  · show AW _ _ _ _ _ (.ref 72 :: _) _ _ _ _
    refine aw_astore_n (lo' := [_, _, some (.ref _)]) dX9_save_12 (by decide) rfl ?_
    refine aw_aload_n dX9_save_13 rfl ?_
    refine aw_ifnonnull 32 dX9_save_14 (by decide) ?_
    refine aw_aload_n dX9_save_32 rfl ?_
    refine aw_aload_n dX9_save_33 rfl ?_
    refine aw_get fl_X9_10 dX9_save_34 e_0 (by omega) rfl ?_
    refine ap_callVv kv_X9_287 ko_X1_copyFrom (c_X1_copyFrom_72_1 hn9) dX9_save_37 e_72 (by omega) rfl rfl rfl rfl (ble' rfl) (by decide) ?_
    refine aw_vret rfl dX9_save_40 (ble' rfl) (ble' rfl) ?_
    exact Or.inr ⟨hx0, rfl, 72, M, by rw [hxk, show va_up G.1 k (some 72) = G.1 from by funext q; unfold va_up; split; rename_i w; rw [w, hg]; rfl]; rfl, Or.inl ⟨by rw [hxk]; exact hg, rfl, rfl⟩, Or.inl rfl⟩
  · show AW _ _ _ _ _ (.ref 99 :: _) _ _ _ _
    refine aw_astore_n (lo' := [_, _, some (.ref _)]) dX9_save_12 (by decide) rfl ?_
    refine aw_aload_n dX9_save_13 rfl ?_
    refine aw_ifnonnull 32 dX9_save_14 (by decide) ?_
    refine aw_aload_n dX9_save_32 rfl ?_
    refine aw_aload_n dX9_save_33 rfl ?_
    refine aw_get fl_X9_10 dX9_save_34 e_0 (by omega) rfl ?_
    refine ap_callVv kv_X9_287 ko_X1_copyFrom (c_X1_copyFrom_99_1 hn9) dX9_save_37 e_99 (by omega) rfl rfl rfl rfl (ble' rfl) (by decide) ?_
    refine aw_vret rfl dX9_save_40 (ble' rfl) (ble' rfl) ?_
    exact Or.inr ⟨hx0, rfl, 99, M, by rw [hxk, show va_up G.1 k (some 99) = G.1 from by funext q; unfold va_up; split; rename_i w; rw [w, hg]; rfl]; rfl, Or.inl ⟨by rw [hxk]; exact hg, rfl, rfl⟩, Or.inr rfl⟩
