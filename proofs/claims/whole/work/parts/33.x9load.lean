theorem rdL_le {L : Nat} : ∀ (f : Nat) {M : Nat → Nat → Int32} {t : RT}, (rdL L f M t).2.1 ≤ f
  | 0, M, t => Nat.le_refl 0
  | f + 1, M, t => by
    unfold rdL
    split
    · exact Nat.zero_le _
    · split
      · exact Nat.succ_le_succ (rdL_le f)
      · exact Nat.zero_le _
/-- a text of L bytes read whole -/
def ldR (M : Nat → Nat → Int32) (L s0 : Nat) : Bool × Nat × (Nat → Nat → Int32) × RT := rdL L 500 (clrD M) (stepT (M 61) L (M 62 3, s0, 0, M 62 6, 0, -1))
def ldM (M : Nat → Nat → Int32) (L s0 : Nat) : Nat → Nat → Int32 := updM (rd (ldR M L s0).2.2.1 L (ldR M L s0).2.2.2) 0 (upd ((rd (ldR M L s0).2.2.1 L (ldR M L s0).2.2.2) 0) 7 0)
def ldW (M : Nat → Nat → Int32) (L s0 : Nat) : Nat → Nat → Int32 := if (ldR M L s0).1 = true then cp_1_28 (ldM M L s0) else ldM M L s0
def ldV (M : Nat → Nat → Int32) (L s0 : Nat) : Int32 := if (ldR M L s0).1 = true then nI (ldR M L s0).2.1 else -1
theorem ld_neg {M : Nat → Nat → Int32} {L s0 : Nat} : ldV M L s0 = -1 ↔ ¬ (ldR M L s0).1 = true := by
  unfold ldV
  split
  · rename_i h
    exact ⟨fun q => absurd q (nI_neg1 (Nat.lt_of_le_of_lt (rdL_le 500) (by decide))), fun q => absurd h q⟩
  · rename_i h
    exact ⟨fun _ => h, fun _ => rfl⟩
set_option maxRecDepth 100000 in
set_option maxHeartbeats 4000000 in
theorem c_X9_load {G : AG} {M : Nat → Nat → Int32} {n : Nat} (hn : 72 ≤ n) {L s0 : Nat} (hl : M 0 7 = nI L) (hL : L ≤ 500) (hs0 : M 62 4 = nI s0) : AMet tX9_load yX9_load [Cond.code yX9_load cX9_load 2 (some .int)] [.ref 0] (wld G M) n (PD (.inl (some (.int (ldV M L s0)))) (wld G (ldW M L s0)) n) := by
  refine am_of (lo := [_, _]) (by decide) rfl (fun q => by cases q) rfl rfl rfl ?_
  refine aw_aload_n dX9_load_0 rfl ?_
  refine aw_get fl_X9_48 dX9_load_1 e_0 (l_0 hn) rfl ?_
  refine aw_aload_n dX9_load_4 rfl ?_
  refine aw_get fl_X9_52 dX9_load_5 e_0 (l_0 hn) rfl ?_
  refine ap_callVi kv_X9_284 ko_X6_read (show AMet _ _ _ _ _ _ (PD (.inl (some (.int (ldV M L s0)))) (wld G (rd (ldR M L s0).2.2.1 L (ldR M L s0).2.2.2)) n) from c_X6_read hn hl hL hs0) dX9_load_8 e_62 (l_62 hn) rfl rfl rfl rfl (ble' rfl) (by decide) ?_
  refine aw_istore_n (lo' := [_, some (.int _)]) dX9_load_11 (by decide) rfl ?_
  refine aw_aload_n dX9_load_12 rfl ?_
  refine aw_iconst (v := 0) dX9_load_13 (by decide) ?_
  refine aw_put fp_X9_52_m dX9_load_14 e_0 (l_0 hn) (ble' rfl) (fun _ => ⟨rfl, rfl⟩) (hwf rfl) ?_
  refine aw_iload_n dX9_load_17 rfl ?_
  refine aw_iconst (v := -1) dX9_load_18 (by decide) ?_
  refine aw_icmp_eq 33 dX9_load_19 (by decide) (fun c19 => ?_) (fun c19 => ?_)
  · refine aw_iload_n dX9_load_33 rfl ?_
    refine aw_iret rfl dX9_load_34 (ble' rfl) (ble' rfl) ?_
    exact pd_ih rfl (by rw [ldW, if_neg (ld_neg.mp c19)]; rfl)
  · refine aw_aload_n dX9_load_22 rfl ?_
    refine aw_get fl_X9_10 dX9_load_23 e_0 (l_0 hn) rfl ?_
    refine aw_aload_n dX9_load_26 rfl ?_
    refine aw_get fl_X9_16 dX9_load_27 e_0 (l_0 hn) rfl ?_
    refine ap_callVv kv_X9_287 ko_X1_copyFrom (c_X1_copyFrom_1_28 (M := ldM M L s0) hn) dX9_load_30 e_1 (l_1 hn) rfl rfl rfl rfl (ble' rfl) (by decide) ?_
    refine aw_iload_n dX9_load_33 rfl ?_
    refine aw_iret rfl dX9_load_34 (ble' rfl) (ble' rfl) ?_
    exact pd_ih rfl (by rw [ldW, if_pos (Classical.byContradiction (fun q => c19 (ld_neg.mpr q)))])
