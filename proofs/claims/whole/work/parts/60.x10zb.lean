theorem aw_zaldk {T : ATy} {Q : AQ} {CX : AC} {pc : Nat} {lo : List (Option Value)} {st : List Value} {h : Nat → AE} {n ce sl : Nat} {i len k : Nat} {f : Nat → Int32} {j : Int32} (hd : decode T.2.1 pc = .ok (.baload, 1)) (he : h i = .inl (3, len, .inl f)) (hi : i < n) (hj : j = nI k) (hk : k < len) (hl : Nat.ble len 2000000000 = true) (kk : AW T Q CX (pc + 1) lo (.int (f k) :: st) h n ce sl) : AW T Q CX pc lo (.int j :: .ref i :: st) h n ce sl := by
  have h2 : len < 2 ^ 31 := Nat.lt_of_le_of_lt (Nat.le_of_ble_eq_true hl) (by decide)
  refine aw_zald hd he hi (in_of hj hk h2) ?_
  rw [cl_of hj (Nat.lt_trans hk h2)]
  exact kk
theorem aw_zastk {T : ATy} {Q : AQ} {CX : AC} {pc : Nat} {lo : List (Option Value)} {st : List Value} {h h' : Nat → AE} {n ce sl : Nat} {i len k : Nat} {f : Nat → Int32} {j x : Int32} (hd : decode T.2.1 pc = .ok (.bastore, 1)) (he : h i = .inl (3, len, .inl f)) (hi : i < n) (hj : j = nI k) (hk : k < len) (hl : Nat.ble len 2000000000 = true) (hh : hset h i (.inl (3, len, .inl (upd f k (vp_nar .boolean x)))) = h') (kk : AW T Q CX (pc + 1) lo st h' n ce sl) : AW T Q CX pc lo (.int x :: .int j :: .ref i :: st) h n ce sl := by
  have h2 : len < 2 ^ 31 := Nat.lt_of_le_of_lt (Nat.le_of_ble_eq_true hl) (by decide)
  refine aw_zast hd he hi (in_of hj hk h2) ?_ kk
  rw [cl_of hj (Nat.lt_trans hk h2)]
  exact hh
theorem hset_2 {h : Nat → AE} {b : Nat} {x y : AE} : hset (hset h b x) b y = hset h b y := by
  funext i; unfold hset; split <;> rfl
theorem hset_n {h : Nat → AE} {a b : Nat} {x : AE} (hab : a ≠ b) : hset h b x a = h a := if_neg hab
theorem hset_s {h : Nat → AE} {b : Nat} {x : AE} : hset h b x b = x := if_pos rfl
theorem hset_id {h : Nat → AE} {b : Nat} {x : AE} (e : h b = x) : hset h b x = h := by
  funext i; unfold hset; split
  · rename_i q; rw [q, e]
  · rfl
theorem cpy_s {f g : Nat → Int32} {p q k : Nat} : upd (va_cpy f g p q k) (q + k) (f (p + k)) = va_cpy f g p q (k + 1) := by
  funext i
  unfold upd va_cpy
  by_cases h : i = q + k
  · subst h
    rw [if_pos rfl, if_pos ⟨by omega, by omega⟩, show p + (q + k - q) = p + k by omega]
  · rw [if_neg h]
    by_cases h2 : q ≤ i ∧ i < q + k
    · rw [if_pos h2, if_pos ⟨h2.1, by omega⟩]
    · rw [if_neg h2, if_neg (fun r => h2 ⟨r.1, by omega⟩)]
theorem cpy_0 {f g : Nat → Int32} {p q : Nat} : va_cpy f g p q 0 = g := by
  funext i; unfold va_cpy; exact if_neg (by omega)
set_option maxRecDepth 100000 in
set_option maxHeartbeats 4000000 in
theorem lp_X10_copy {h : Nat → AE} {n a b la lb p q : Nat} {ra rb : Nat → Int32} (ha : h a = .inl (0, la, .inl ra)) (hb : h b = .inl (0, lb, .inl rb)) (hab : a ≠ b) (han : a < n) (hbn : b < n) (hp : p + 572 ≤ la) (hq : q + 572 ≤ lb) (hla : Nat.ble la 2000000000 = true) (hlb : Nat.ble lb 2000000000 = true) {x1 x3 : Int32} (h1 : x1 = nI p) (h3 : x3 = nI q) : ∀ (j k : Nat) (x4 : Int32), 572 - k < j → k ≤ 572 → x4 = nI k →  AW tX10_copy (AQm tX10_copy (PD (.inl none) (hset h b (.inl (0, lb, .inl (va_cpy ra rb p q 572)))) n)) C0 3 [some (.ref a), some (.int x1), some (.ref b), some (.int x3), some (.int x4)] [] (hset h b (.inl (0, lb, .inl (va_cpy ra rb p q k)))) n 0 0 := by
  intro j
  induction j with
  | zero => intro k x4 h0; omega
  | succ j ih =>
    intro k x4 h0 hk h4
    refine aw_iload dX10_copy_3 rfl ?_
    refine aw_sipush (v := 572) dX10_copy_5 (by decide) ?_
    refine aw_icmp_ge 29 dX10_copy_8 (by decide) (fun c8 => ?_) (fun c8 => ?_)
    · have n8 := Int32.not_lt.mpr c8
      refine aw_vret rfl dX10_copy_29 (ble' rfl) (ble' rfl) ?_
      have hke : k = 572 := Nat.le_antisymm hk (le_of_le (show (572 : Int32) = nI 572 from rfl) h4 (by decide) (by omega) c8)
      exact pd_v (by rw [hke])
    · have n8 := Int32.not_le.mp c8
      have hlt : k < 572 := lt_of_nle (show (572 : Int32) = nI 572 from rfl) h4 (by decide) (by omega) c8
      have hA : (hset h b (.inl (0, lb, .inl (va_cpy ra rb p q k)))) a = .inl (0, la, .inl ra) := (hset_n hab).trans ha
      have hB : (hset h b (.inl (0, lb, .inl (va_cpy ra rb p q k)))) b = .inl (0, lb, .inl (va_cpy ra rb p q k)) := hset_s
      have hW : hset (hset h b (.inl (0, lb, .inl (va_cpy ra rb p q k)))) b (.inl (0, lb, .inl (upd (va_cpy ra rb p q k) (q + k) (ra (p + k))))) = (hset h b (.inl (0, lb, .inl (va_cpy ra rb p q (k + 1))))) := by rw [hset_2, cpy_s]
      refine aw_aload_n dX10_copy_11 rfl ?_
      refine aw_iload_n dX10_copy_12 rfl ?_
      refine aw_iload dX10_copy_13 rfl ?_
      refine aw_iadd dX10_copy_15 ?_
      refine aw_aload_n dX10_copy_16 rfl ?_
      refine aw_iload_n dX10_copy_17 rfl ?_
      refine aw_iload dX10_copy_18 rfl ?_
      refine aw_iadd dX10_copy_20 ?_
      refine aw_ialdk dX10_copy_21 hA han (by rw [h1, h4, nI_add]) (show p + k < la by omega) hla ?_
      refine aw_iastk dX10_copy_22 hB hbn (by rw [h3, h4, nI_add]) (show q + k < lb by omega) hlb hW ?_
      refine aw_iinc (lo' := [_, _, _, _, some (.int _)]) dX10_copy_23 rfl (by decide) rfl ?_
      refine aw_goto 3 dX10_copy_26 (by decide) ?_
      exact ih (k + 1) _ (by omega) (by omega) (by rw [h4]; exact inc1 k)

set_option maxRecDepth 100000 in
set_option maxHeartbeats 4000000 in
theorem c_X10_copy {h : Nat → AE} {n a b la lb p q : Nat} {ra rb : Nat → Int32} (ha : h a = .inl (0, la, .inl ra)) (hb : h b = .inl (0, lb, .inl rb)) (hab : a ≠ b) (han : a < n) (hbn : b < n) (hp : p + 572 ≤ la) (hq : q + 572 ≤ lb) (hla : Nat.ble la 2000000000 = true) (hlb : Nat.ble lb 2000000000 = true) {x1 x3 : Int32} (h1 : x1 = nI p) (h3 : x3 = nI q) : AMet tX10_copy yX10_copy [Cond.code yX10_copy cX10_copy 5 none] [.ref a, .int x1, .ref b, .int x3] h n (PD (.inl none) (hset h b (.inl (0, lb, .inl (va_cpy ra rb p q 572)))) n) := by
  refine am_of (lo := [_, _, _, _, _]) (by decide) rfl (fun q => by cases q) rfl rfl rfl ?_
  refine aw_iconst (v := 0) dX10_copy_0 (by decide) ?_
  refine aw_istore (lo' := [_, _, _, _, some (.int _)]) dX10_copy_1 (by decide) rfl ?_
  refine aw_heq (h' := (hset h b (.inl (0, lb, .inl (va_cpy ra rb p q 0))))) (by rw [cpy_0, hset_id hb]) ?_
  exact lp_X10_copy ha hb hab han hbn hp hq hla hlb h1 h3 573 0 _ (by omega) (by omega) rfl

def cr_save (s : Int32) : Nat := if ¬ (0 ≤ s ∧ s ≤ 1) then 1 else 0
def svM (M : Nat → Nat → Int32) (k : Nat) : Nat → Nat → Int32 := updM (updM M 66 (va_cpy (M 64) (M 66) 0 (572 * k) 572)) 67 (upd (M 67) k 1)
def cr_restore (M : Nat → Nat → Int32) (s : Int32) : Nat := if ¬ (0 ≤ s ∧ s ≤ 1) then 1 else if M 67 s.toNatClampNeg = 0 then 2 else 0
def rsM1 (M : Nat → Nat → Int32) (k : Nat) : Nat → Nat → Int32 := updM M 64 (va_cpy (M 66) (M 64) (572 * k) 0 572)
theorem rs_upd {A M : Nat → Nat → Int32} (h : RS A M) {i : Nat} {r : Nat → Int32} (hi : i ≠ 63) : RS (updM A i r) (updM M i r) := by
  refine ⟨fun j h1 h2 h3 => ?_, fun j h1 h2 h3 => ?_⟩
  · by_cases hj : j = i
    · subst hj; rw [updM_s, updM_s]
    · rw [updM_n hj, updM_n hj]; exact h.1 j h1 h2 h3
  · rw [updM_n (Ne.symm hi), updM_n (Ne.symm hi)]; exact h.2 j h1 h2 h3
theorem rs_sv {A M : Nat → Nat → Int32} (h : RS A M) {k : Nat} : RS (svM A k) (svM M k) := by
  unfold svM
  rw [h.1 64 (by decide) (by decide) (by decide), h.1 66 (by decide) (by decide) (by decide), h.1 67 (by decide) (by decide) (by decide)]
  exact rs_upd (rs_upd h (by decide)) (by decide)
theorem rs_rs {A M : Nat → Nat → Int32} (h : RS A M) {k : Nat} : RS (rsM1 A k) (rsM1 M k) := by
  unfold rsM1
  rw [h.1 64 (by decide) (by decide) (by decide), h.1 66 (by decide) (by decide) (by decide)]
  exact rs_upd h (by decide)
set_option maxRecDepth 100000 in
set_option maxHeartbeats 4000000 in
theorem c_X10_save {G : AG} {M : Nat → Nat → Int32} {n : Nat} (hn : 72 ≤ n) (s : Int32) : AMet tX10_save yX10_save [Cond.code yX10_save cX10_save 2 none] [.ref 63, .int s] (wld G M) n (PRv (cr_save s) G M (svM M s.toNatClampNeg) n) := by
  refine am_of (lo := [_, _]) (by decide) rfl (fun q => by cases q) rfl rfl rfl ?_
  refine aw_aload_n dX10_save_0 rfl ?_
  refine aw_iload_n dX10_save_1 rfl ?_
  refine aw_iconst (v := 0) dX10_save_2 (by decide) ?_
  refine aw_iconst (v := 1) dX10_save_3 (by decide) ?_
  refine ap_callSi ks_X10_39 ko_X10_isBetween (c_X10_isBetween _ _ _) dX10_save_4 rfl rfl (ble' rfl) (by decide) ?_
  refine aw_if_eq 14 dX10_save_7 (by decide) (fun c7 => ?_) (fun c7 => ?_)
  · have n7 := bI_z.mp c7
    refine aw_iconst (v := 1) dX10_save_14 (by decide) ?_
    refine aw_put fp_X10_36_m dX10_save_15 e_63 (l_63 hn) (ble' rfl) (fun _ => ⟨rfl, rfl⟩) (hwf rfl) ?_
    refine aw_aload_n dX10_save_18 rfl ?_
    refine aw_get fl_X10_36 dX10_save_19 e_63 (l_63 hn) rfl ?_
    refine aw_if_ne 49 dX10_save_22 (by decide) (fun _ => ?_) (fun q => absurd (show (1 : Int32) = 0 from q) (by decide))
    refine aw_vret rfl dX10_save_49 (ble' rfl) (ble' rfl) ?_
    exact pr_nov (k := 0) (by rw [cr_save, if_pos n7]) rs_1 rfl
  · have n7 := bI_nz.mp c7
    refine aw_iconst (v := 0) dX10_save_10 (by decide) ?_
    refine aw_goto 15 dX10_save_11 (by decide) ?_
    refine aw_put fp_X10_36_m dX10_save_15 e_63 (l_63 hn) (ble' rfl) (fun _ => ⟨rfl, rfl⟩) (hwf rfl) ?_
    refine aw_aload_n dX10_save_18 rfl ?_
    refine aw_get fl_X10_36 dX10_save_19 e_63 (l_63 hn) rfl ?_
    refine aw_if_ne 49 dX10_save_22 (by decide) (fun q => absurd (show ¬ (0 : Int32) = 0 from q) (by decide)) (fun _ => ?_)
    obtain ⟨k, hk2, hsk⟩ := day_of (show (1 : Int32) = nI 1 from rfl) (by decide) n7
    obtain ⟨M', eRS, e4, eW⟩ : ∃ M', RS M M' ∧ M' 63 4 = 0 ∧ wld G (updM M 63 (upd (M 63) 4 0)) = wld G M' := ⟨_, rs_1, rfl, rfl⟩
    refine aw_heq eW ?_
    refine aw_aload_n dX10_save_25 rfl ?_
    refine aw_get fl_X10_7 dX10_save_26 e_63 (l_63 hn) rfl ?_
    refine aw_iconst (v := 0) dX10_save_29 (by decide) ?_
    refine aw_aload_n dX10_save_30 rfl ?_
    refine aw_get fl_X10_16 dX10_save_31 e_63 (l_63 hn) rfl ?_
    refine aw_sipush (v := 572) dX10_save_34 (by decide) ?_
    refine aw_iload_n dX10_save_37 rfl ?_
    refine aw_imul dX10_save_38 ?_
    refine ap_callSv ks_X10_293 ko_X10_copy (c_X10_copy (a := 64) (b := 66) (la := 572) (lb := 1144) (p := 0) (q := (572 * k)) e_64 e_66 (by decide) (l_64 hn) (l_66 hn) (by omega) (by omega) rfl rfl rfl (by rw [hsk, show (572 : Int32) = nI 572 from rfl, nI_mul])) dX10_save_39 rfl rfl (ble' rfl) (by decide) ?_
    refine aw_heq (h' := wld G (updM M' 66 (va_cpy (M' 64) (M' 66) 0 (572 * k) 572))) (hwa rfl) ?_
    refine aw_aload_n dX10_save_42 rfl ?_
    refine aw_get fl_X10_19 dX10_save_43 e_63 (l_63 hn) rfl ?_
    refine aw_iload_n dX10_save_46 rfl ?_
    refine aw_iconst (v := 1) dX10_save_47 (by decide) ?_
    refine aw_zastk dX10_save_48 e_67 (l_67 hn) hsk (by omega) rfl (hwa rfl) ?_
    refine aw_vret rfl dX10_save_49 (ble' rfl) (ble' rfl) ?_
    exact pr_okv (by rw [cr_save, if_neg (fun q => q n7)]) (by rw [cl_of hsk (by omega)]; exact rs_sv eRS) e4

set_option maxRecDepth 100000 in
set_option maxHeartbeats 4000000 in
theorem c_X10_restore {G : AG} {M : Nat → Nat → Int32} {n : Nat} (hn : 72 ≤ n) (s : Int32) : AMet tX10_restore yX10_restore [Cond.code yX10_restore cX10_restore 2 none] [.ref 63, .int s] (wld G M) n (PRv (cr_restore M s) G M (rsM1 M s.toNatClampNeg) n) := by
  refine am_of (lo := [_, _]) (by decide) rfl (fun q => by cases q) rfl rfl rfl ?_
  refine aw_aload_n dX10_restore_0 rfl ?_
  refine aw_iload_n dX10_restore_1 rfl ?_
  refine aw_iconst (v := 0) dX10_restore_2 (by decide) ?_
  refine aw_iconst (v := 1) dX10_restore_3 (by decide) ?_
  refine ap_callSi ks_X10_39 ko_X10_isBetween (c_X10_isBetween _ _ _) dX10_restore_4 rfl rfl (ble' rfl) (by decide) ?_
  refine aw_if_ne 14 dX10_restore_7 (by decide) (fun c7 => ?_) (fun c7 => ?_)
  · have n7 := bI_nz.mp c7
    obtain ⟨k, hk2, hsk⟩ := day_of (show (1 : Int32) = nI 1 from rfl) (by decide) n7
    refine aw_aload_n dX10_restore_14 rfl ?_
    refine aw_get fl_X10_19 dX10_restore_15 e_63 (l_63 hn) rfl ?_
    refine aw_iload_n dX10_restore_18 rfl ?_
    refine aw_zaldk dX10_restore_19 e_67 (l_67 hn) hsk (by omega) rfl ?_
    refine aw_if_ne 27 dX10_restore_20 (by decide) (fun c20 => ?_) (fun c20 => ?_)
    · refine aw_iconst (v := 0) dX10_restore_27 (by decide) ?_
      refine aw_put fp_X10_36_m dX10_restore_28 e_63 (l_63 hn) (ble' rfl) (fun _ => ⟨rfl, rfl⟩) (hwf rfl) ?_
      refine aw_aload_n dX10_restore_31 rfl ?_
      refine aw_get fl_X10_36 dX10_restore_32 e_63 (l_63 hn) rfl ?_
      refine aw_if_ne 55 dX10_restore_35 (by decide) (fun q => absurd (show ¬ (0 : Int32) = 0 from q) (by decide)) (fun _ => ?_)
      obtain ⟨M', eRS, e4, eW⟩ : ∃ M', RS M M' ∧ M' 63 4 = 0 ∧ wld G (updM M 63 (upd (M 63) 4 0)) = wld G M' := ⟨_, rs_1, rfl, rfl⟩
      refine aw_heq eW ?_
      refine aw_aload_n dX10_restore_38 rfl ?_
      refine aw_get fl_X10_16 dX10_restore_39 e_63 (l_63 hn) rfl ?_
      refine aw_sipush (v := 572) dX10_restore_42 (by decide) ?_
      refine aw_iload_n dX10_restore_45 rfl ?_
      refine aw_imul dX10_restore_46 ?_
      refine aw_aload_n dX10_restore_47 rfl ?_
      refine aw_get fl_X10_7 dX10_restore_48 e_63 (l_63 hn) rfl ?_
      refine aw_iconst (v := 0) dX10_restore_51 (by decide) ?_
      refine ap_callSv ks_X10_293 ko_X10_copy (c_X10_copy (a := 66) (b := 64) (la := 1144) (lb := 572) (p := (572 * k)) (q := 0) e_66 e_64 (by decide) (l_66 hn) (l_64 hn) (by omega) (by omega) rfl rfl (by rw [hsk, show (572 : Int32) = nI 572 from rfl, nI_mul]) rfl) dX10_restore_52 rfl rfl (ble' rfl) (by decide) ?_
      refine aw_heq (h' := wld G (updM M' 64 (va_cpy (M' 66) (M' 64) (572 * k) 0 572))) (hwa rfl) ?_
      refine aw_vret rfl dX10_restore_55 (ble' rfl) (ble' rfl) ?_
      exact pr_okv (by rw [cr_restore, if_neg (fun q => q n7), if_neg (by rw [cl_of hsk (by omega)]; exact c20)]) (by rw [cl_of hsk (by omega)]; exact rs_rs eRS) e4
    · refine aw_iconst (v := 2) dX10_restore_23 (by decide) ?_
      refine aw_goto 28 dX10_restore_24 (by decide) ?_
      refine aw_put fp_X10_36_m dX10_restore_28 e_63 (l_63 hn) (ble' rfl) (fun _ => ⟨rfl, rfl⟩) (hwf rfl) ?_
      refine aw_aload_n dX10_restore_31 rfl ?_
      refine aw_get fl_X10_36 dX10_restore_32 e_63 (l_63 hn) rfl ?_
      refine aw_if_ne 55 dX10_restore_35 (by decide) (fun _ => ?_) (fun q => absurd (show (2 : Int32) = 0 from q) (by decide))
      refine aw_vret rfl dX10_restore_55 (ble' rfl) (ble' rfl) ?_
      exact pr_nov (k := 1) (by rw [cr_restore, if_neg (fun q => q n7), if_pos (by rw [cl_of hsk (by omega)]; exact c20)]) rs_1 rfl
  · have n7 := bI_z.mp c7
    refine aw_iconst (v := 1) dX10_restore_10 (by decide) ?_
    refine aw_goto 28 dX10_restore_11 (by decide) ?_
    refine aw_put fp_X10_36_m dX10_restore_28 e_63 (l_63 hn) (ble' rfl) (fun _ => ⟨rfl, rfl⟩) (hwf rfl) ?_
    refine aw_aload_n dX10_restore_31 rfl ?_
    refine aw_get fl_X10_36 dX10_restore_32 e_63 (l_63 hn) rfl ?_
    refine aw_if_ne 55 dX10_restore_35 (by decide) (fun _ => ?_) (fun q => absurd (show (1 : Int32) = 0 from q) (by decide))
    refine aw_vret rfl dX10_restore_55 (ble' rfl) (ble' rfl) ?_
    exact pr_nov (k := 0) (by rw [cr_restore, if_pos n7]) rs_1 rfl

def cr_truncateText (M : Nat → Nat → Int32) (l : Int32) : Nat := if ¬ (0 ≤ l ∧ l ≤ M 63 10) then 1 else 0
def txM (M : Nat → Nat → Int32) (l : Int32) : Nat → Nat → Int32 := updM M 63 (upd (M 63) 10 l)
theorem rs_tx {A M : Nat → Nat → Int32} (h : RS A M) {l : Int32} : RS (txM A l) (txM M l) := by
  refine ⟨fun j h1 h2 h3 => ?_, fun j h1 h2 h3 => ?_⟩
  · unfold txM; rw [updM_n h1, updM_n h1]; exact h.1 j h1 h2 h3
  · unfold txM; rw [updM_s, updM_s]
    by_cases hj : j = 10
    · subst hj; rw [upd_s, upd_s]
    · rw [upd_n hj, upd_n hj]; exact h.2 j h1 h2 h3
set_option maxRecDepth 100000 in
set_option maxHeartbeats 4000000 in
theorem c_X10_truncateText {G : AG} {M : Nat → Nat → Int32} {n : Nat} (hn : 72 ≤ n) (l : Int32) : AMet tX10_truncateText yX10_truncateText [Cond.code yX10_truncateText cX10_truncateText 2 (some .int)] [.ref 63, .int l] (wld G M) n (PR (cr_truncateText M l) l G M (txM M l) n) := by
  refine am_of (lo := [_, _]) (by decide) rfl (fun q => by cases q) rfl rfl rfl ?_
  refine aw_aload_n dX10_truncateText_0 rfl ?_
  refine aw_iconst (v := 0) dX10_truncateText_1 (by decide) ?_
  refine aw_put fp_X10_36_m dX10_truncateText_2 e_63 (l_63 hn) (ble' rfl) (fun _ => ⟨rfl, rfl⟩) (hwf rfl) ?_
  obtain ⟨M', e63, eRS, e4, eW⟩ : ∃ M', (∀ j, j ≠ 4 → M 63 j = M' 63 j) ∧ RS M M' ∧ M' 63 4 = 0 ∧ wld G (updM M 63 (upd (M 63) 4 0)) = wld G M' := ⟨_, fun j h => (if_neg h).symm, rs_1, rfl, rfl⟩
  refine aw_heq eW ?_
  refine aw_iload_n dX10_truncateText_5 rfl ?_
  refine aw_iconst (v := 0) dX10_truncateText_6 (by decide) ?_
  refine aw_aload_n dX10_truncateText_7 rfl ?_
  refine aw_get fl_X10_213 dX10_truncateText_8 e_63 (l_63 hn) rfl ?_
  refine ap_callSi ks_X10_39 ko_X10_isBetween (c_X10_isBetween _ _ _) dX10_truncateText_11 rfl rfl (ble' rfl) (by decide) ?_
  refine aw_if_ne 23 dX10_truncateText_14 (by decide) (fun c14 => ?_) (fun c14 => ?_)
  · have n14 := bI_nz.mp c14
    refine aw_aload_n dX10_truncateText_23 rfl ?_
    refine aw_iload_n dX10_truncateText_24 rfl ?_
    refine aw_put fp_X10_213_m dX10_truncateText_25 e_63 (l_63 hn) (ble' rfl) (fun _ => ⟨rfl, rfl⟩) (hwf rfl) ?_
    refine aw_aload_n dX10_truncateText_28 rfl ?_
    refine aw_get fl_X10_213 dX10_truncateText_29 e_63 (l_63 hn) rfl ?_
    refine aw_iret rfl dX10_truncateText_32 (ble' rfl) (ble' rfl) ?_
    exact pr_ok (by rw [cr_truncateText, e63 10 (by decide), if_neg (fun q => q n14)]) rfl (rs_tx eRS) e4
  · have n14 := bI_z.mp c14
    refine aw_aload_n dX10_truncateText_17 rfl ?_
    refine aw_iconst (v := 1) dX10_truncateText_18 (by decide) ?_
    refine ap_callVi kv_X10_43 ko_X10_fail (c_X10_fail hn _) dX10_truncateText_19 e_63 (l_63 hn) rfl rfl rfl rfl (ble' rfl) (by decide) ?_
    refine aw_iret rfl dX10_truncateText_22 (ble' rfl) (ble' rfl) ?_
    exact pr_no (k := 0) (by rw [cr_truncateText, e63 10 (by decide), if_pos n14]) (rs_tr eRS rs_1) rfl

def cr_appendText (M : Nat → Nat → Int32) : Nat := if ¬ (M 63 10 + 4 ≤ 500) then 1 else 0
def atM (M : Nat → Nat → Int32) (k : Nat) (f : Int32) : Nat → Nat → Int32 := txM (updM M 70 (upd (upd (upd (upd (M 70) k ((f >>> (24 &&& 31)) &&& 255)) (k + 1) ((f >>> ((24 + Int32.ofInt (-8)) &&& 31)) &&& 255)) (k + 2) ((f >>> ((24 + Int32.ofInt (-8) + Int32.ofInt (-8)) &&& 31)) &&& 255)) (k + 3) ((f >>> ((24 + Int32.ofInt (-8) + Int32.ofInt (-8) + Int32.ofInt (-8)) &&& 31)) &&& 255))) (nI (k + 4))
theorem rs_at {A M : Nat → Nat → Int32} (h : RS A M) {k : Nat} {f : Int32} : RS (atM A k f) (atM M k f) := by
  unfold atM
  rw [h.1 70 (by decide) (by decide) (by decide)]
  exact rs_tx (rs_upd h (by decide))
theorem at_step {M : Nat → Nat → Int32} {R R2 : Nat → Int32} {l l2 : Int32} (h : l + 1 = l2) : updM (updM (txM (updM M 70 R) l) 70 R2) 63 (upd ((updM (txM (updM M 70 R) l) 70 R2) 63) 10 ((updM (txM (updM M 70 R) l) 70 R2) 63 10 + 1)) = txM (updM M 70 R2) l2 := by
  subst h
  funext i
  by_cases h1 : i = 63
  · subst h1
    funext j
    by_cases h2 : j = 10
    · subst h2; rfl
    · simp [updM, txM, upd, h2]
  · by_cases h2 : i = 70
    · subst h2; rfl
    · simp [updM, txM, h1, h2]
theorem at_0 {M : Nat → Nat → Int32} : txM (updM M 70 (M 70)) (M 63 10) = M := by
  funext i
  by_cases h1 : i = 63
  · subst h1
    funext j
    by_cases h2 : j = 10
    · subst h2; rfl
    · simp [updM, txM, upd, h2]
  · by_cases h2 : i = 70
    · subst h2; rfl
    · simp [updM, txM, h1, h2]
set_option maxRecDepth 100000 in
set_option maxHeartbeats 4000000 in
theorem c_X10_appendText {G : AG} {M : Nat → Nat → Int32} {n : Nat} (hn : 72 ≤ n) {k : Nat} (hk : M 63 10 = nI k) (hk5 : k ≤ 500) (f : Int32) : AMet tX10_appendText yX10_appendText [Cond.code yX10_appendText cX10_appendText 3 (some .int)] [.ref 63, .int f] (wld G M) n (PR (cr_appendText M) (nI (k + 4)) G M (atM M k f) n) := by
  refine am_of (lo := [_, _, _]) (by decide) rfl (fun q => by cases q) rfl rfl rfl ?_
  refine aw_aload_n dX10_appendText_0 rfl ?_
  refine aw_iconst (v := 0) dX10_appendText_1 (by decide) ?_
  refine aw_put fp_X10_36_m dX10_appendText_2 e_63 (l_63 hn) (ble' rfl) (fun _ => ⟨rfl, rfl⟩) (hwf rfl) ?_
  obtain ⟨M', e63, eRS, e4, eW⟩ : ∃ M', (∀ j, j ≠ 4 → M 63 j = M' 63 j) ∧ RS M M' ∧ M' 63 4 = 0 ∧ wld G (updM M 63 (upd (M 63) 4 0)) = wld G M' := ⟨_, fun j h => (if_neg h).symm, rs_1, rfl, rfl⟩
  refine aw_heq eW ?_
  rw [e63 10 (by decide)] at hk
  refine aw_aload_n dX10_appendText_5 rfl ?_
  refine aw_get fl_X10_213 dX10_appendText_6 e_63 (l_63 hn) rfl ?_
  refine aw_iconst (v := 4) dX10_appendText_9 (by decide) ?_
  refine aw_iadd dX10_appendText_10 ?_
  refine aw_sipush (v := 500) dX10_appendText_11 (by decide) ?_
  refine aw_icmp_le 23 dX10_appendText_14 (by decide) (fun c14 => ?_) (fun c14 => ?_)
  · have n14 := Int32.not_lt.mpr c14
    have h496 : k ≤ 496 := by have := le_of_le (show M' 63 10 + 4 = nI (k + 4) by rw [hk]; exact nI_add k 4) (show (500 : Int32) = nI 500 from rfl) (by omega) (by decide) c14; omega
    refine aw_heq (h' := wld G (txM (updM M' 70 (M' 70)) (nI k))) (by rw [← hk, at_0]) ?_
    refine aw_bipush (v := 24) dX10_appendText_23 (by decide) ?_
    refine aw_istore_n (lo' := [_, _, some (.int _)]) dX10_appendText_25 (by decide) rfl ?_
    refine aw_iload_n dX10_appendText_26 rfl ?_
    refine aw_if_lt 62 dX10_appendText_27 (by decide) (fun q => absurd q (by decide)) (fun _ => ?_)
    refine aw_aload_n dX10_appendText_30 rfl ?_
    refine aw_get fl_X10_29 dX10_appendText_31 e_63 (l_63 hn) rfl ?_
    refine aw_aload_n dX10_appendText_34 rfl ?_
    refine aw_get fl_X10_213 dX10_appendText_35 e_63 (l_63 hn) rfl ?_
    refine aw_iload_n dX10_appendText_38 rfl ?_
    refine aw_iload_n dX10_appendText_39 rfl ?_
    refine aw_ishr dX10_appendText_40 ?_
    refine aw_sipush (v := 255) dX10_appendText_41 (by decide) ?_
    refine aw_iand dX10_appendText_44 ?_
    refine aw_iastk dX10_appendText_45 e_70 (l_70 hn) (k := k ) rfl (by omega) rfl (hwa rfl) ?_
    refine aw_aload_n dX10_appendText_46 rfl ?_
    refine aw_dup dX10_appendText_47 rfl ?_
    refine aw_get fl_X10_213 dX10_appendText_48 e_63 (l_63 hn) rfl ?_
    refine aw_iconst (v := 1) dX10_appendText_51 (by decide) ?_
    refine aw_iadd dX10_appendText_52 ?_
    refine aw_put fp_X10_213_m dX10_appendText_53 e_63 (l_63 hn) (ble' rfl) (fun _ => ⟨rfl, rfl⟩) (hwf rfl) ?_
    refine aw_heq (h' := wld G (txM (updM M' 70 (upd (M' 70) k ((f >>> (24 &&& 31)) &&& 255))) (nI (k + 1)))) (congrArg (wld G) (at_step (nI_1 _))) ?_
    refine aw_iinc (lo' := [_, _, some (.int _)]) dX10_appendText_56 rfl (by decide) rfl ?_
    refine aw_goto 26 dX10_appendText_59 (by decide) ?_
    refine aw_iload_n dX10_appendText_26 rfl ?_
    refine aw_if_lt 62 dX10_appendText_27 (by decide) (fun q => absurd q (by decide)) (fun _ => ?_)
    refine aw_aload_n dX10_appendText_30 rfl ?_
    refine aw_get fl_X10_29 dX10_appendText_31 e_63 (l_63 hn) rfl ?_
    refine aw_aload_n dX10_appendText_34 rfl ?_
    refine aw_get fl_X10_213 dX10_appendText_35 e_63 (l_63 hn) rfl ?_
    refine aw_iload_n dX10_appendText_38 rfl ?_
    refine aw_iload_n dX10_appendText_39 rfl ?_
    refine aw_ishr dX10_appendText_40 ?_
    refine aw_sipush (v := 255) dX10_appendText_41 (by decide) ?_
    refine aw_iand dX10_appendText_44 ?_
    refine aw_iastk dX10_appendText_45 e_70 (l_70 hn) (k := (k + 1) ) rfl (by omega) rfl (hwa rfl) ?_
    refine aw_aload_n dX10_appendText_46 rfl ?_
    refine aw_dup dX10_appendText_47 rfl ?_
    refine aw_get fl_X10_213 dX10_appendText_48 e_63 (l_63 hn) rfl ?_
    refine aw_iconst (v := 1) dX10_appendText_51 (by decide) ?_
    refine aw_iadd dX10_appendText_52 ?_
    refine aw_put fp_X10_213_m dX10_appendText_53 e_63 (l_63 hn) (ble' rfl) (fun _ => ⟨rfl, rfl⟩) (hwf rfl) ?_
    refine aw_heq (h' := wld G (txM (updM M' 70 (upd (upd (M' 70) k ((f >>> (24 &&& 31)) &&& 255)) (k + 1) ((f >>> ((24 + Int32.ofInt (-8)) &&& 31)) &&& 255))) (nI (k + 2)))) (congrArg (wld G) (at_step (nI_1 _))) ?_
    refine aw_iinc (lo' := [_, _, some (.int _)]) dX10_appendText_56 rfl (by decide) rfl ?_
    refine aw_goto 26 dX10_appendText_59 (by decide) ?_
    refine aw_iload_n dX10_appendText_26 rfl ?_
    refine aw_if_lt 62 dX10_appendText_27 (by decide) (fun q => absurd q (by decide)) (fun _ => ?_)
    refine aw_aload_n dX10_appendText_30 rfl ?_
    refine aw_get fl_X10_29 dX10_appendText_31 e_63 (l_63 hn) rfl ?_
    refine aw_aload_n dX10_appendText_34 rfl ?_
    refine aw_get fl_X10_213 dX10_appendText_35 e_63 (l_63 hn) rfl ?_
    refine aw_iload_n dX10_appendText_38 rfl ?_
    refine aw_iload_n dX10_appendText_39 rfl ?_
    refine aw_ishr dX10_appendText_40 ?_
    refine aw_sipush (v := 255) dX10_appendText_41 (by decide) ?_
    refine aw_iand dX10_appendText_44 ?_
    refine aw_iastk dX10_appendText_45 e_70 (l_70 hn) (k := (k + 2) ) rfl (by omega) rfl (hwa rfl) ?_
    refine aw_aload_n dX10_appendText_46 rfl ?_
    refine aw_dup dX10_appendText_47 rfl ?_
    refine aw_get fl_X10_213 dX10_appendText_48 e_63 (l_63 hn) rfl ?_
    refine aw_iconst (v := 1) dX10_appendText_51 (by decide) ?_
    refine aw_iadd dX10_appendText_52 ?_
    refine aw_put fp_X10_213_m dX10_appendText_53 e_63 (l_63 hn) (ble' rfl) (fun _ => ⟨rfl, rfl⟩) (hwf rfl) ?_
    refine aw_heq (h' := wld G (txM (updM M' 70 (upd (upd (upd (M' 70) k ((f >>> (24 &&& 31)) &&& 255)) (k + 1) ((f >>> ((24 + Int32.ofInt (-8)) &&& 31)) &&& 255)) (k + 2) ((f >>> ((24 + Int32.ofInt (-8) + Int32.ofInt (-8)) &&& 31)) &&& 255))) (nI (k + 3)))) (congrArg (wld G) (at_step (nI_1 _))) ?_
    refine aw_iinc (lo' := [_, _, some (.int _)]) dX10_appendText_56 rfl (by decide) rfl ?_
    refine aw_goto 26 dX10_appendText_59 (by decide) ?_
    refine aw_iload_n dX10_appendText_26 rfl ?_
    refine aw_if_lt 62 dX10_appendText_27 (by decide) (fun q => absurd q (by decide)) (fun _ => ?_)
    refine aw_aload_n dX10_appendText_30 rfl ?_
    refine aw_get fl_X10_29 dX10_appendText_31 e_63 (l_63 hn) rfl ?_
    refine aw_aload_n dX10_appendText_34 rfl ?_
    refine aw_get fl_X10_213 dX10_appendText_35 e_63 (l_63 hn) rfl ?_
    refine aw_iload_n dX10_appendText_38 rfl ?_
    refine aw_iload_n dX10_appendText_39 rfl ?_
    refine aw_ishr dX10_appendText_40 ?_
    refine aw_sipush (v := 255) dX10_appendText_41 (by decide) ?_
    refine aw_iand dX10_appendText_44 ?_
    refine aw_iastk dX10_appendText_45 e_70 (l_70 hn) (k := (k + 3) ) rfl (by omega) rfl (hwa rfl) ?_
    refine aw_aload_n dX10_appendText_46 rfl ?_
    refine aw_dup dX10_appendText_47 rfl ?_
    refine aw_get fl_X10_213 dX10_appendText_48 e_63 (l_63 hn) rfl ?_
    refine aw_iconst (v := 1) dX10_appendText_51 (by decide) ?_
    refine aw_iadd dX10_appendText_52 ?_
    refine aw_put fp_X10_213_m dX10_appendText_53 e_63 (l_63 hn) (ble' rfl) (fun _ => ⟨rfl, rfl⟩) (hwf rfl) ?_
    refine aw_heq (h' := wld G (txM (updM M' 70 (upd (upd (upd (upd (M' 70) k ((f >>> (24 &&& 31)) &&& 255)) (k + 1) ((f >>> ((24 + Int32.ofInt (-8)) &&& 31)) &&& 255)) (k + 2) ((f >>> ((24 + Int32.ofInt (-8) + Int32.ofInt (-8)) &&& 31)) &&& 255)) (k + 3) ((f >>> ((24 + Int32.ofInt (-8) + Int32.ofInt (-8) + Int32.ofInt (-8)) &&& 31)) &&& 255))) (nI (k + 4)))) (congrArg (wld G) (at_step (nI_1 _))) ?_
    refine aw_iinc (lo' := [_, _, some (.int _)]) dX10_appendText_56 rfl (by decide) rfl ?_
    refine aw_goto 26 dX10_appendText_59 (by decide) ?_
    refine aw_iload_n dX10_appendText_26 rfl ?_
    refine aw_if_lt 62 dX10_appendText_27 (by decide) (fun _ => ?_) (fun q => absurd q (by decide))
    refine aw_aload_n dX10_appendText_62 rfl ?_
    refine aw_get fl_X10_213 dX10_appendText_63 e_63 (l_63 hn) rfl ?_
    refine aw_iret rfl dX10_appendText_66 (ble' rfl) (ble' rfl) ?_
    exact pr_ok (by rw [cr_appendText, e63 10 (by decide), if_neg (fun q => q c14)]) rfl (rs_at eRS) e4
  · have n14 := Int32.not_le.mp c14
    refine aw_aload_n dX10_appendText_17 rfl ?_
    refine aw_iconst (v := 1) dX10_appendText_18 (by decide) ?_
    refine ap_callVi kv_X10_43 ko_X10_fail (c_X10_fail hn _) dX10_appendText_19 e_63 (l_63 hn) rfl rfl rfl rfl (ble' rfl) (by decide) ?_
    refine aw_iret rfl dX10_appendText_22 (ble' rfl) (ble' rfl) ?_
    exact pr_no (k := 0) (by rw [cr_appendText, e63 10 (by decide), if_pos c14]) (rs_tr eRS rs_1) rfl
