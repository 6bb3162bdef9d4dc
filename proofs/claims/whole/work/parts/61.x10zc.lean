theorem hv_10 {G : AG} {M : Nat → Nat → Int32} {w : Int64} {po ts tk le nu ec ep : Int32} {x : Int32} {fs : List Value} (h : fs = [.ref 64, .ref 65, .ref 66, .ref 67, .int (M 63 4), .ref 68, .ref 69, .int (M 63 7), .int (M 63 8), .ref 70, .int (M 63 10), .int po, .int ts, .int tk, .int le, .int nu, .int ec, .int ep, .long w]) : hset (wld (gW G w) (rvM M po ts tk le nu ec ep)) 63 (.inr (10, fs.set 10 (.int x))) = wld (gW G w) (rvM (txM M x) po ts tk le nu ec ep) := by
  subst h
  refine (hset_wld (i := 63) (r := rvR (upd (M 63) 10 x) po ts tk le nu ec ep) rfl).trans ?_
  congr 1
  funext i
  unfold updM rvM txM updM
  by_cases h : i = 63
  · subst h; rfl
  · simp [h]
theorem ev_65 {G : AG} {M : Nat → Nat → Int32} {w : Int64} {po ts tk le nu ec ep : Int32} : wld (gW G w) (rvM M po ts tk le nu ec ep) 65 = .inl (0, 572, .inl (M 65)) := rfl
/-- the statements of a text -/
def ldN (L : Nat) : Nat → (Nat → Nat → Int32) → RV → Option (Nat × (Nat → Nat → Int32) × RV)
  | 0, _, _ => none
  | f + 1, M, t => if t.2.2.2.2.2.1 = 0 ∧ ¬ t.1 = 0 then (ldN L f (stV L M t).1 (stV L M t).2).map (fun x => (x.1 + 1, x.2)) else some (0, M, t)
theorem w64_ne {M : Nat → Nat → Int32} {i j : Nat} {x : Int32} (h : j ≠ 64) : w64 M i x j = M j := updM_n h
theorem pc_keep {M : Nat → Nat → Int32} {L j : Nat} {t : RV} (h : j ≠ 64) : (pcV L M t).1 j = M j := by
  unfold pcV
  generalize pc5 (M 70) L M t = A5
  generalize pc4 (M 70) L M t = A4
  generalize pc3 (M 70) L M t = A3
  generalize pc2 (M 70) L M t = A2
  split
  · show appendClassM M _ _ _ _ j = M j
    unfold appendClassM
    rw [w64_ne h, w64_ne h, w64_ne h, w64_ne h]
  · rfl
theorem pz_keep {M : Nat → Nat → Int32} {L j : Nat} {t : RV} (h : j ≠ 64) : (pzV L M t).1 j = M j := by
  unfold pzV
  generalize pz7 (M 70) L M t = A7
  generalize pz6 (M 70) L M t = A6
  generalize pz5 (M 70) L M t = A5
  generalize pz4 (M 70) L M t = A4
  generalize pz3 (M 70) L M t = A3
  generalize pz2 (M 70) L M t = A2
  split
  · show appendSeasonM M _ _ _ _ _ _ j = M j
    unfold appendSeasonM
    rw [w64_ne h, w64_ne h, w64_ne h, w64_ne h, w64_ne h, w64_ne h]
  · rfl
theorem apS_keep {M : Nat → Nat → Int32} {k j : Nat} {a : Int32} (h : j ≠ 64) : appendSiteM M k a j = M j := by
  unfold appendSiteM
  rw [w64_ne h, w64_ne h, w64_ne h]
theorem si_keep {L j : Nat} (h : j ≠ 64) : ∀ (f : Nat) {M : Nat → Nat → Int32} {t : RV}, (siV L f M t).1 j = M j
  | 0, M, t => rfl
  | f + 1, M, t => by
    unfold siV
    generalize ps2 (M 70) L M t = A2
    split
    · rfl
    · split
      · exact (si_keep h f).trans (apS_keep h)
      · exact apS_keep h
theorem st_keep {M : Nat → Nat → Int32} {L j : Nat} {t : RV} (h : j ≠ 64) : (stV L M t).1 j = M j := by
  unfold stV smV
  show (if isWV t 0 = true then pcV L M t else if isWV t 1 = true then siV L 17 M (advV (M 70) L t) else if isWV t 2 = true then pzV L M t else pdV L M t).1 j = M j
  split
  · exact pc_keep h
  · split
    · exact si_keep h 17
    · split
      · exact pz_keep h
      · exact w64_ne h
theorem lv_keep {L j : Nat} (h : j ≠ 64) : ∀ (f : Nat) {M : Nat → Nat → Int32} {t : RV} {r : Nat × (Nat → Nat → Int32) × RV}, ldN L f M t = some r → r.2.1 j = M j
  | 0, M, t, r, hf => by cases hf
  | f + 1, M, t, r, hf => by
    unfold ldN at hf
    split at hf
    · cases h3 : ldN L f (stV L M t).1 (stV L M t).2 with
      | none => rw [h3] at hf; cases hf
      | some r2 =>
        rw [h3] at hf
        cases hf
        exact (lv_keep h f h3).trans (st_keep h)
    · cases hf; rfl
/-- how load ends -/
def PLd (Q : Nat → (Nat → Int32) → RV → Prop) (G : AG) (M : Nat → Nat → Int32) (n : Nat) : APost := fun o h n' => n' = n ∧ ∃ k R t G2 M2, Q k R t ∧ o = .inl (some (.int (if t.2.2.2.2.2.1 = 0 then nI k else -1))) ∧ h = wld G2 M2 ∧ G2.1 = G.1 ∧ G2.2.2 = G.2.2 ∧ (∀ i, i ≠ 63 → i ≠ 64 → i ≠ 65 → M2 i = M i) ∧ (∀ p, p < 572 → M2 64 p = if t.2.2.2.2.2.1 = 0 then R p else M 64 p) ∧ M2 63 4 = 0 ∧ M2 63 10 = 0 ∧ M2 63 16 = t.2.2.2.2.2.1 ∧ M2 63 17 = t.2.2.2.2.2.2.1
set_option maxRecDepth 100000 in
set_option maxHeartbeats 4000000 in
theorem lp_X10_load1 {G : AG} {M : Nat → Nat → Int32} {n : Nat} (hn : 72 ≤ n) {Po : APost} (kk : AW tX10_load (AQm tX10_load Po) C0 40 [some (.ref 63), none] [] (wld G (updM M 64 (mapK (fun _ => 0) (M 64) 572))) n 0 0) : ∀ (j k : Nat) (x1 : Int32), 572 - k < j → k ≤ 572 → x1 = nI k →  AW tX10_load (AQm tX10_load (Po)) C0 20 [some (.ref 63), some (.int x1)] [] (wld G (updM M 64 (mapK (fun _ => 0) (M 64) k))) n 0 0 := by
  intro j
  induction j with
  | zero => intro k x1 h0; omega
  | succ j ih =>
    intro k x1 h0 hk h1
    refine aw_iload_n dX10_load_20 rfl ?_
    refine aw_sipush (v := 572) dX10_load_21 (by decide) ?_
    refine aw_icmp_ge 40 dX10_load_24 (by decide) (fun c24 => ?_) (fun c24 => ?_)
    · have n24 := Int32.not_lt.mpr c24
      have hke : k = 572 := Nat.le_antisymm hk (le_of_le (show (572 : Int32) = nI 572 from rfl) h1 (by decide) (by omega) c24)
      subst hke
      refine aw_lo2 (lo' := [some (.ref 63), none]) ⟨rfl, trivial⟩ ?_
      exact kk
    · have n24 := Int32.not_le.mp c24
      have hlt : k < 572 := lt_of_nle (show (572 : Int32) = nI 572 from rfl) h1 (by decide) (by omega) c24
      have hwz : hset (wld G (updM M 64 (mapK (fun _ => 0) (M 64) k))) 64 (.inl (0, 572, .inl (upd ((updM M 64 (mapK (fun _ => 0) (M 64) k)) 64) k 0))) = wld G (updM M 64 (mapK (fun _ => 0) (M 64) (k + 1))) := by rw [updM_s, mapK_put rfl]; refine (hwa rfl).trans ?_; congr 1; funext i; unfold updM; split <;> rfl
      refine aw_aload_n dX10_load_27 rfl ?_
      refine aw_get fl_X10_7 dX10_load_28 e_63 (l_63 hn) rfl ?_
      refine aw_iload_n dX10_load_31 rfl ?_
      refine aw_iconst (v := 0) dX10_load_32 (by decide) ?_
      refine aw_iastk dX10_load_33 e_64 (l_64 hn) h1 hlt rfl hwz ?_
      refine aw_iinc (lo' := [_, some (.int _)]) dX10_load_34 rfl (by decide) rfl ?_
      refine aw_goto 20 dX10_load_37 (by decide) ?_
      exact ih (k + 1) _ (by omega) (by omega) (by rw [h1]; exact inc1 k)

set_option maxRecDepth 100000 in
set_option maxHeartbeats 4000000 in
theorem lp_X10_load2 {G : AG} {n : Nat} (hn : 72 ≤ n) {L : Nat} (hL : L ≤ 500) {Po : APost} : ∀ (f : Nat) (M : Nat → Nat → Int32) (t : RV) (i : Nat) (x1 : Int32) {rz : Nat × (Nat → Nat → Int32) × RV}, ldN L f M t = some rz → x1 = nI i → M 63 10 = nI L → (∀ i, i < 500 → ¬ M 70 i = -1) → t.2.2.1 ≤ L → SR M → (∀ v, v = nI (i + rz.1) → AW tX10_load (AQm tX10_load Po) C0 85 [some (.ref 63), some (.int v)] [] (wld (gv G rz.2.2) (rv rz.2.1 rz.2.2)) n 0 0) →  AW tX10_load (AQm tX10_load (Po)) C0 61 [some (.ref 63), some (.int x1)] [] (wld (gv G t) (rv M t)) n 0 0 := by
  intro f
  induction f with
  | zero => intro M t i x1 rz hf; cases hf
  | succ f ih =>
    intro M t i x1 rz hf h1 hl hx hE hSR kk
    refine aw_aload_n dX10_load_61 rfl ?_
    refine aw_get fl_X10_258 dX10_load_62 ev_63 (l_63 hn) rfl ?_
    refine aw_if_ne 85 dX10_load_65 (by decide) (fun c65 => ?_) (fun c65 => ?_)
    · unfold ldN at hf
      rw [if_neg (fun q => c65 q.1)] at hf
      cases hf
      refine aw_lo2 (lo' := [some (.ref 63), some (.int _)]) ⟨rfl, rfl, trivial⟩ ?_
      exact kk x1 (by rw [h1]; rfl)
    · refine aw_aload_n dX10_load_68 rfl ?_
      refine aw_get fl_X10_235 dX10_load_69 ev_63 (l_63 hn) rfl ?_
      refine aw_if_eq 85 dX10_load_72 (by decide) (fun c72 => ?_) (fun c72 => ?_)
      · unfold ldN at hf
        rw [if_neg (fun q => q.2 c72)] at hf
        cases hf
        refine aw_lo2 (lo' := [some (.ref 63), some (.int _)]) ⟨rfl, rfl, trivial⟩ ?_
        exact kk x1 (by rw [h1]; rfl)
      · refine aw_aload_n dX10_load_75 rfl ?_
        refine ap_callVv kv_X10_297 ko_X10_parseStatement (c_X10_parseStatement hn hl hL hx hE hSR) dX10_load_76 ev_63 (l_63 hn) rfl rfl rfl rfl (ble' rfl) (by decide) ?_
        refine aw_iinc (lo' := [_, some (.int _)]) dX10_load_79 rfl (by decide) rfl ?_
        refine aw_goto 61 dX10_load_82 (by decide) ?_
        unfold ldN at hf
        rw [if_pos ⟨c65, c72⟩] at hf
        obtain ⟨o1, o2, o3, o4⟩ := stv_ok (L := L) (t := t) hSR hE
        generalize stV L M t = r at hf o1 o2 o3 o4 ⊢
        cases hf3 : ldN L f r.1 r.2 with
        | none => rw [hf3] at hf; cases hf
        | some r2 =>
          rw [hf3] at hf
          cases hf
          exact ih r.1 r.2 (i + 1) _ hf3 (by rw [h1]; exact inc1 i) (by rw [o2]; exact hl) (by rw [o3]; exact hx) o4 o1 (fun v hv => kk v (by rw [hv, show i + 1 + r2.1 = i + (r2.1 + 1) by omega]))

theorem rvM_n {M : Nat → Nat → Int32} {po ts tk le nu ec ep : Int32} {i : Nat} (h : i ≠ 63) : rvM M po ts tk le nu ec ep i = M i := if_neg h
theorem txM_n {M : Nat → Nat → Int32} {l : Int32} {i : Nat} (h : i ≠ 63) : txM M l i = M i := updM_n h
set_option maxRecDepth 100000 in
set_option maxHeartbeats 4000000 in
theorem c_X10_load {G : AG} {M : Nat → Nat → Int32} {n : Nat} (hn : 72 ≤ n) {L : Nat} (hl : M 63 10 = nI L) (hL : L ≤ 500) (hx : ∀ i, i < 500 → ¬ M 70 i = -1) {f : Nat} {Q : Nat → (Nat → Int32) → RV → Prop} (hf : ∀ N : Nat → Nat → Int32, N 70 = M 70 → (∀ p, p < 572 → N 64 p = 0) → ∃ rz, ldN L f N (stpV (M 70) L (0, 0, 0, 0, 0, 0, -1, 0)) = some rz ∧ Q rz.1 (rz.2.1 64) rz.2.2) : AMet tX10_load yX10_load [Cond.code yX10_load cX10_load 2 (some .int)] [.ref 63] (wld G M) n (PLd Q G M n) := by
  refine am_of (lo := [_, _]) (by decide) rfl (fun q => by cases q) rfl rfl rfl ?_
  refine aw_aload_n dX10_load_0 rfl ?_
  refine aw_iconst (v := 0) dX10_load_1 (by decide) ?_
  refine aw_put fp_X10_36_m dX10_load_2 e_63 (l_63 hn) (ble' rfl) (fun _ => ⟨rfl, rfl⟩) (hwf rfl) ?_
  obtain ⟨M', eM, e63, e4, eW⟩ : ∃ M', (∀ i, i ≠ 63 → M' i = M i) ∧ (∀ j, j ≠ 4 → M' 63 j = M 63 j) ∧ M' 63 4 = 0 ∧ wld G (updM M 63 (upd (M 63) 4 0)) = wld G M' := ⟨_, fun i h => updM_n h, fun j h => if_neg h, rfl, rfl⟩
  refine aw_heq eW ?_
  refine aw_aload_n dX10_load_5 rfl ?_
  refine aw_get fl_X10_7 dX10_load_6 e_63 (l_63 hn) rfl ?_
  refine aw_iconst (v := 0) dX10_load_9 (by decide) ?_
  refine aw_aload_n dX10_load_10 rfl ?_
  refine aw_get fl_X10_13 dX10_load_11 e_63 (l_63 hn) rfl ?_
  refine aw_iconst (v := 0) dX10_load_14 (by decide) ?_
  refine ap_callSv ks_X10_293 ko_X10_copy (c_X10_copy (a := 64) (b := 65) (la := 572) (lb := 572) (p := 0) (q := 0) e_64 e_65 (by decide) (l_64 hn) (l_65 hn) (by omega) (by omega) rfl rfl rfl rfl) dX10_load_15 rfl rfl (ble' rfl) (by decide) ?_
  refine aw_heq (h' := wld G (updM M' 65 (va_cpy (M' 64) (M' 65) 0 0 572))) (hwa rfl) ?_
  obtain ⟨M1, f65, fo, eW1⟩ : ∃ M1, M1 65 = va_cpy (M' 64) (M' 65) 0 0 572 ∧ (∀ i, i ≠ 65 → M1 i = M' i) ∧ wld G (updM M' 65 (va_cpy (M' 64) (M' 65) 0 0 572)) = wld G M1 := ⟨_, updM_s, fun i h => updM_n h, rfl⟩
  refine aw_heq eW1 ?_
  refine aw_iconst (v := 0) dX10_load_18 (by decide) ?_
  refine aw_istore_n (lo' := [_, some (.int _)]) dX10_load_19 (by decide) rfl ?_
  refine aw_heq (h' := wld G (updM M1 64 (mapK (fun _ => 0) (M1 64) 0))) (by rw [mapK_0]; congr 1; funext i; unfold updM; split; rename_i q; rw [q]; rfl) ?_
  refine lp_X10_load1 (M := M1) hn ?_ 573 0 _ (by omega) (by omega) rfl
  obtain ⟨N, g64, go, eW2⟩ : ∃ N, N 64 = mapK (fun _ => 0) (M1 64) 572 ∧ (∀ i, i ≠ 64 → N i = M1 i) ∧ wld G (updM M1 64 (mapK (fun _ => 0) (M1 64) 572)) = wld G N := ⟨_, updM_s, fun i h => updM_n h, rfl⟩
  refine aw_heq eW2 ?_
  have z64 : ∀ p, p < 572 → N 64 p = 0 := fun p h => by rw [g64]; exact if_pos h
  have hlN : N 63 10 = nI L := by rw [go 63 (by decide), fo 63 (by decide), e63 10 (by decide)]; exact hl
  have e70 : N 70 = M 70 := by rw [go 70 (by decide), fo 70 (by decide), eM 70 (by decide)]
  have hxN : ∀ i, i < 500 → ¬ N 70 i = -1 := by rw [e70]; exact hx
  have hSR : SR N := ⟨⟨0, z64 1 (by decide), by omega⟩, ⟨0, z64 2 (by decide), by omega⟩, ⟨0, z64 3 (by decide), by omega⟩⟩
  obtain ⟨rz, hf, hQ⟩ := hf N e70 z64
  obtain ⟨ts, hts⟩ := nI_any (N 63 12)
  refine aw_heq rv_wld ?_
  rw [hts]
  refine aw_aload_n dX10_load_40 rfl ?_
  refine aw_iconst (v := 0) dX10_load_41 (by decide) ?_
  refine aw_put fp_X10_258_m dX10_load_42 ev_63 (l_63 hn) (ble' rfl) (fun _ => ⟨rfl, rfl⟩) (hv_16 rfl) ?_
  refine aw_aload_n dX10_load_45 rfl ?_
  refine aw_iconst (v := -1) dX10_load_46 (by decide) ?_
  refine aw_put fp_X10_32_m dX10_load_47 ev_63 (l_63 hn) (ble' rfl) (fun _ => ⟨rfl, rfl⟩) (hv_17 rfl) ?_
  refine aw_aload_n dX10_load_50 rfl ?_
  refine aw_iconst (v := 0) dX10_load_51 (by decide) ?_
  refine aw_put fp_X10_216_m dX10_load_52 ev_63 (l_63 hn) (ble' rfl) (fun _ => ⟨rfl, rfl⟩) (hv_11 rfl) ?_
  refine aw_aload_n dX10_load_55 rfl ?_
  refine ap_callVv kv_X10_261 ko_X10_nextToken (c_X10_nextToken (M := N) (t := (N 63 13, ts, 0, N 63 14, N 63 15, 0, -1, G.2.1)) hn hlN hL hxN (Nat.zero_le _)) dX10_load_56 ev_63 (l_63 hn) rfl rfl rfl rfl (ble' rfl) (by decide) ?_
  refine aw_iconst (v := 0) dX10_load_59 (by decide) ?_
  refine aw_istore_n (lo' := [_, some (.int _)]) dX10_load_60 (by decide) rfl ?_
  refine lp_X10_load2 (rz := rz) hn hL f N (stpV (N 70) L (N 63 13, ts, 0, N 63 14, N 63 15, 0, -1, G.2.1)) 0 _ (by rw [e70]; exact hf) rfl hlN hxN (stp_E (Nat.zero_le _)) hSR (fun v hv => ?_)
  have kz : ∀ j, j ≠ 64 → rz.2.1 j = N j := fun j h => lv_keep h f hf
  rw [Nat.zero_add] at hv
  refine aw_aload_n dX10_load_85 rfl ?_
  refine aw_iconst (v := 0) dX10_load_86 (by decide) ?_
  refine aw_put fp_X10_213_m dX10_load_87 ev_63 (l_63 hn) (ble' rfl) (fun _ => ⟨rfl, rfl⟩) (hv_10 rfl) ?_
  refine aw_aload_n dX10_load_90 rfl ?_
  refine aw_get fl_X10_258 dX10_load_91 ev_63 (l_63 hn) rfl ?_
  refine aw_if_eq 112 dX10_load_94 (by decide) (fun c94 => ?_) (fun c94 => ?_)
  · refine aw_iload_n dX10_load_112 rfl ?_
    refine aw_iret rfl dX10_load_113 (ble' rfl) (ble' rfl) ?_
    refine ⟨rfl, rz.1, rz.2.1 64, rz.2.2, gv G rz.2.2, _, hQ, ?_, rfl, rfl, rfl, fun i h1 h2 h3 => ?_, fun p hp => ?_, ?_, rfl, rfl, rfl⟩
    · rw [if_pos c94, hv]
    · rw [rvM_n h1, txM_n h1, kz i h2, go i h2, fo i h3, eM i h1]
    · rw [if_pos c94]; rfl
    · show rz.2.1 63 4 = 0; rw [kz 63 (by decide), go 63 (by decide), fo 63 (by decide)]; exact e4
  · refine aw_aload_n dX10_load_97 rfl ?_
    refine aw_get fl_X10_13 dX10_load_98 ev_63 (l_63 hn) rfl ?_
    refine aw_iconst (v := 0) dX10_load_101 (by decide) ?_
    refine aw_aload_n dX10_load_102 rfl ?_
    refine aw_get fl_X10_7 dX10_load_103 ev_63 (l_63 hn) rfl ?_
    refine aw_iconst (v := 0) dX10_load_106 (by decide) ?_
    refine ap_callSv ks_X10_293 ko_X10_copy (c_X10_copy (a := 65) (b := 64) (la := 572) (lb := 572) (p := 0) (q := 0) ev_65 ev_64 (by decide) (l_65 hn) (l_64 hn) (by omega) (by omega) rfl rfl rfl rfl) dX10_load_107 rfl rfl (ble' rfl) (by decide) ?_
    refine aw_heq (h' := wld (gv G rz.2.2) (updM (rvM (txM rz.2.1 0) (nI rz.2.2.2.2.1) (nI rz.2.2.2.1) rz.2.2.1 rz.2.2.2.2.2.1 rz.2.2.2.2.2.2.1 rz.2.2.2.2.2.2.2.1 rz.2.2.2.2.2.2.2.2.1) 64 (va_cpy (rz.2.1 65) (rz.2.1 64) 0 0 572))) (hwa rfl) ?_
    refine aw_iconst (v := -1) dX10_load_110 (by decide) ?_
    refine aw_iret rfl dX10_load_111 (ble' rfl) (ble' rfl) ?_
    refine ⟨rfl, rz.1, rz.2.1 64, rz.2.2, gv G rz.2.2, _, hQ, ?_, rfl, rfl, rfl, fun i h1 h2 h3 => ?_, fun p hp => ?_, ?_, rfl, rfl, rfl⟩
    · rw [if_neg c94]
    · rw [updM_n h2, rvM_n h1, txM_n h1, kz i h2, go i h2, fo i h3, eM i h1]
    · rw [if_neg c94, updM_s]; show va_cpy (rz.2.1 65) (rz.2.1 64) 0 0 572 p = M 64 p; rw [kz 65 (by decide), go 65 (by decide), f65]; unfold va_cpy; rw [if_pos ⟨by omega, by omega⟩, if_pos ⟨by omega, by omega⟩, eM 64 (by decide)]; congr 1; omega
    · show rz.2.1 63 4 = 0; rw [kz 63 (by decide), go 63 (by decide), fo 63 (by decide)]; exact e4
