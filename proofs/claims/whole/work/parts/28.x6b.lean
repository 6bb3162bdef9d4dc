theorem tok_E {x : Nat → Int32} {L s : Nat} {t : RT} (h : s ≤ L) : (tokT x L s t).2.2.1 ≤ L := by
  unfold tokT
  split
  · exact h
  · split
    · exact (run_le h).2
    · split
      · exact (run_le h).2
      · show s + 1 ≤ L; omega
theorem step_E {x : Nat → Int32} {L : Nat} {t : RT} (h : t.2.2.1 ≤ L) : (stepT x L t).2.2.1 ≤ L := tok_E (run_le h).2
theorem num_E {x : Nat → Int32} {L : Nat} {lo hi : Int32} {t : RT} (h : t.2.2.1 ≤ L) : (numT x L lo hi t).2.2.2.1 ≤ L := by
  unfold numT
  split
  · exact h
  · split
    · exact h
    · exact step_E h
def nxt (a : Int32 × RT) (f : RT → Int32 × RT) : Int32 × RT := if a.1 = -1 then (-1, a.2) else f a.2
theorem nxt_E {L : Nat} {a : Int32 × RT} {f : RT → Int32 × RT} (h : a.2.2.2.1 ≤ L) (hf : ∀ t : RT, t.2.2.1 ≤ L → (f t).2.2.2.1 ≤ L) : (nxt a f).2.2.2.1 ≤ L := by
  unfold nxt
  split
  · exact h
  · exact hf _ h
theorem rd_C {M : Nat → Nat → Int32} {L : Nat} {t : RT} {k : Nat} {w s q : Int32} : addC_d (rd M L t) k w s q = rd (addC_d M k w s q) L t := by
  funext i
  by_cases h : i = 62
  · subst h; rfl
  · simp [addC_d, rd, rsM, updM, h]
theorem rd_S {M : Nat → Nat → Int32} {L : Nat} {t : RT} {k : Nat} {c : Int32} : addS_d (rd M L t) k c = rd (addS_d M k c) L t := by
  funext i
  by_cases h : i = 62
  · subst h; rfl
  · simp [addS_d, rd, rsM, updM, h]
theorem rd_Z {M : Nat → Nat → Int32} {L : Nat} {t : RT} {k : Nat} {c f l m p : Int32} : addZ_d (rd M L t) k c f l m p = rd (addZ_d M k c f l m p) L t := by
  funext i
  by_cases h : i = 62
  · subst h; rfl
  · simp [addZ_d, rd, rsM, updM, h]
def smT (x : Nat → Int32) (L : Nat) (t : RT) : Bool × RT := if t.1 = 3 then (true, stepT x L t) else (false, failT t.2.1 1 t)
def dyT (M : Nat → Nat → Int32) (L : Nat) (t : RT) : Bool × (Nat → Nat → Int32) × RT :=
  if (numT (M 61) L 0 999 (stepT (M 61) L t)).1 = -1 then (false, M, (numT (M 61) L 0 999 (stepT (M 61) L t)).2) else (true, updM M 28 (upd (M 28) 5 (numT (M 61) L 0 999 (stepT (M 61) L t)).1), (numT (M 61) L 0 999 (stepT (M 61) L t)).2)
def clA (x : Nat → Int32) (L : Nat) (t : RT) : Int32 × RT := numT x L 1 200 (stepT x L t)
def clB (x : Nat → Int32) (L : Nat) (t : RT) : Int32 × RT := nxt (clA x L t) (numT x L 0 (clA x L t).1)
def clC (x : Nat → Int32) (L : Nat) (t : RT) : Int32 × RT := nxt (clB x L t) (numT x L 0 16)
def clT (M : Nat → Nat → Int32) (L : Nat) (t : RT) : Bool × (Nat → Nat → Int32) × RT :=
  if 4 ≤ M 29 3 then (false, M, failT t.2.1 3 t) else if (clC (M 61) L t).1 = -1 then (false, M, (clC (M 61) L t).2) else (true, addC_d M (M 29 3).toNatClampNeg (clA (M 61) L t).1 (clB (M 61) L t).1 (clC (M 61) L t).1, (clC (M 61) L t).2)
def szA (x : Nat → Int32) (L : Nat) (cc : Int32) (t : RT) : Int32 × RT := numT x L 0 (cc - 1) (stepT x L t)
def szB (x : Nat → Int32) (L : Nat) (cc : Int32) (t : RT) : Int32 × RT := nxt (szA x L cc t) (numT x L 0 999)
def szC (x : Nat → Int32) (L : Nat) (cc : Int32) (t : RT) : Int32 × RT := nxt (szB x L cc t) (numT x L (szB x L cc t).1 999)
def szD (x : Nat → Int32) (L : Nat) (cc : Int32) (t : RT) : Int32 × RT := nxt (szC x L cc t) (numT x L 1 14)
def szE (x : Nat → Int32) (L : Nat) (cc : Int32) (t : RT) : Int32 × RT := nxt (szD x L cc t) (numT x L 0 9999)
def szT (M : Nat → Nat → Int32) (L : Nat) (t : RT) : Bool × (Nat → Nat → Int32) × RT :=
  if 12 ≤ M 36 5 then (false, M, failT t.2.1 3 t) else if (szE (M 61) L (M 29 3) t).1 = -1 then (false, M, (szE (M 61) L (M 29 3) t).2) else (true, addZ_d M (M 36 5).toNatClampNeg (szA (M 61) L (M 29 3) t).1 (szB (M 61) L (M 29 3) t).1 (szC (M 61) L (M 29 3) t).1 (szD (M 61) L (M 29 3) t).1 (szE (M 61) L (M 29 3) t).1, (szE (M 61) L (M 29 3) t).2)
def siT (L : Nat) : Nat → (Nat → Nat → Int32) → RT → Bool × (Nat → Nat → Int32) × RT
  | 0, M, t => (true, M, t)
  | f + 1, M, t => if (numT (M 61) L 0 (M 29 3 - 1) t).1 = -1 then (false, M, (numT (M 61) L 0 (M 29 3 - 1) t).2) else if 16 ≤ M 33 2 then (false, M, failT t.2.1 3 (numT (M 61) L 0 (M 29 3 - 1) t).2) else if (numT (M 61) L 0 (M 29 3 - 1) t).2.1 = 2 then siT L f (addS_d M (M 33 2).toNatClampNeg (numT (M 61) L 0 (M 29 3 - 1) t).1) (numT (M 61) L 0 (M 29 3 - 1) t).2 else (true, addS_d M (M 33 2).toNatClampNeg (numT (M 61) L 0 (M 29 3 - 1) t).1, (numT (M 61) L 0 (M 29 3 - 1) t).2)
set_option maxRecDepth 100000 in
set_option maxHeartbeats 4000000 in
theorem c_X6_readNumber {G : AG} {M : Nat → Nat → Int32} {n : Nat} (hn : 72 ≤ n) {L : Nat} (hL : L ≤ 500) {t : RT} (hE : t.2.2.1 ≤ L) (lo hi : Int32) : AMet tX6_readNumber yX6_readNumber [Cond.code yX6_readNumber cX6_readNumber 4 (some .int)] [.ref 62, .int lo, .int hi] (wld G (rd M L t)) n (PD (.inl (some (.int (numT (M 61) L lo hi t).1))) (wld G (rd M L (numT (M 61) L lo hi t).2)) n) := by
  refine am_of (lo := [_, _, _, _]) (by decide) rfl (fun q => by cases q) rfl rfl rfl ?_
  refine aw_aload_n dX6_readNumber_0 rfl ?_
  refine aw_get fl_X6_15 dX6_readNumber_1 er_62 (l_62 hn) rfl ?_
  refine aw_iconst (v := 2) dX6_readNumber_4 (by decide) ?_
  refine aw_icmp_eq 16 dX6_readNumber_5 (by decide) (fun c5 => ?_) (fun c5 => ?_)
  · refine aw_aload_n dX6_readNumber_16 rfl ?_
    refine aw_get fl_X6_24 dX6_readNumber_17 er_62 (l_62 hn) rfl ?_
    refine aw_iload_n dX6_readNumber_20 rfl ?_
    refine aw_icmp_lt 32 dX6_readNumber_21 (by decide) (fun c21 => ?_) (fun c21 => ?_)
    · have n21 := Int32.not_le.mpr c21
      refine aw_aload_n dX6_readNumber_32 rfl ?_
      refine aw_iconst (v := 2) dX6_readNumber_33 (by decide) ?_
      refine ap_callVi kv_X6_86 ko_X6_fail (c_X6_fail (M := M) (l := nI L) (k := t.1) (s := nI t.2.1) (e := nI t.2.2.1) (v := t.2.2.2.1) (c := t.2.2.2.2.1) (p := t.2.2.2.2.2) hn _) dX6_readNumber_34 er_62 (l_62 hn) rfl rfl rfl rfl (ble' rfl) (by decide) ?_
      refine aw_pop dX6_readNumber_37 rfl ?_
      refine aw_iconst (v := -1) dX6_readNumber_38 (by decide) ?_
      refine aw_iret rfl dX6_readNumber_39 (ble' rfl) (ble' rfl) ?_
      exact pd_ih (by rw [numT, if_neg (fun q => q c5), if_pos (Or.inl c21)]) (by rw [numT, if_neg (fun q => q c5), if_pos (Or.inl c21)]; rfl)
    · have n21 := Int32.not_lt.mp c21
      refine aw_aload_n dX6_readNumber_24 rfl ?_
      refine aw_get fl_X6_24 dX6_readNumber_25 er_62 (l_62 hn) rfl ?_
      refine aw_iload_n dX6_readNumber_28 rfl ?_
      refine aw_icmp_le 40 dX6_readNumber_29 (by decide) (fun c29 => ?_) (fun c29 => ?_)
      · have n29 := Int32.not_lt.mpr c29
        refine aw_aload_n dX6_readNumber_40 rfl ?_
        refine aw_get fl_X6_24 dX6_readNumber_41 er_62 (l_62 hn) rfl ?_
        refine aw_istore_n (lo' := [_, _, _, some (.int _)]) dX6_readNumber_44 (by decide) rfl ?_
        refine aw_aload_n dX6_readNumber_45 rfl ?_
        refine ap_callVv kv_X6_52 ko_X6_step (c_X6_step (M := M) (t := t) hn hL hE) dX6_readNumber_46 er_62 (l_62 hn) rfl rfl rfl rfl (ble' rfl) (by decide) ?_
        refine aw_iload_n dX6_readNumber_49 rfl ?_
        refine aw_iret rfl dX6_readNumber_50 (ble' rfl) (ble' rfl) ?_
        exact pd_ih (by rw [numT, if_neg (fun q => q c5), if_neg (fun q => q.elim c21 (Int32.not_lt.mpr c29))]) (by rw [numT, if_neg (fun q => q c5), if_neg (fun q => q.elim c21 (Int32.not_lt.mpr c29))])
      · have n29 := Int32.not_le.mp c29
        refine aw_aload_n dX6_readNumber_32 rfl ?_
        refine aw_iconst (v := 2) dX6_readNumber_33 (by decide) ?_
        refine ap_callVi kv_X6_86 ko_X6_fail (c_X6_fail (M := M) (l := nI L) (k := t.1) (s := nI t.2.1) (e := nI t.2.2.1) (v := t.2.2.2.1) (c := t.2.2.2.2.1) (p := t.2.2.2.2.2) hn _) dX6_readNumber_34 er_62 (l_62 hn) rfl rfl rfl rfl (ble' rfl) (by decide) ?_
        refine aw_pop dX6_readNumber_37 rfl ?_
        refine aw_iconst (v := -1) dX6_readNumber_38 (by decide) ?_
        refine aw_iret rfl dX6_readNumber_39 (ble' rfl) (ble' rfl) ?_
        exact pd_ih (by rw [numT, if_neg (fun q => q c5), if_pos (Or.inr n29)]) (by rw [numT, if_neg (fun q => q c5), if_pos (Or.inr n29)]; rfl)
  · refine aw_aload_n dX6_readNumber_8 rfl ?_
    refine aw_iconst (v := 1) dX6_readNumber_9 (by decide) ?_
    refine ap_callVi kv_X6_86 ko_X6_fail (c_X6_fail (M := M) (l := nI L) (k := t.1) (s := nI t.2.1) (e := nI t.2.2.1) (v := t.2.2.2.1) (c := t.2.2.2.2.1) (p := t.2.2.2.2.2) hn _) dX6_readNumber_10 er_62 (l_62 hn) rfl rfl rfl rfl (ble' rfl) (by decide) ?_
    refine aw_pop dX6_readNumber_13 rfl ?_
    refine aw_iconst (v := -1) dX6_readNumber_14 (by decide) ?_
    refine aw_iret rfl dX6_readNumber_15 (ble' rfl) (ble' rfl) ?_
    exact pd_ih (by rw [numT, if_pos c5]) (by rw [numT, if_pos c5]; rfl)

set_option maxRecDepth 100000 in
set_option maxHeartbeats 4000000 in
theorem c_X6_readSemicolon {G : AG} {M : Nat → Nat → Int32} {n : Nat} (hn : 72 ≤ n) {L : Nat} (hL : L ≤ 500) {t : RT} (hE : t.2.2.1 ≤ L) : AMet tX6_readSemicolon yX6_readSemicolon [Cond.code yX6_readSemicolon cX6_readSemicolon 1 (some .boolean)] [.ref 62] (wld G (rd M L t)) n (PD (.inl (some (.int (bI ((smT (M 61) L t).1 = true))))) (wld G (rd M L (smT (M 61) L t).2)) n) := by
  refine am_of (lo := [_]) (by decide) rfl (fun q => by cases q) rfl rfl rfl ?_
  refine aw_aload_n dX6_readSemicolon_0 rfl ?_
  refine aw_get fl_X6_15 dX6_readSemicolon_1 er_62 (l_62 hn) rfl ?_
  refine aw_iconst (v := 3) dX6_readSemicolon_4 (by decide) ?_
  refine aw_icmp_eq 14 dX6_readSemicolon_5 (by decide) (fun c5 => ?_) (fun c5 => ?_)
  · refine aw_aload_n dX6_readSemicolon_14 rfl ?_
    refine ap_callVv kv_X6_52 ko_X6_step (c_X6_step (M := M) (t := t) hn hL hE) dX6_readSemicolon_15 er_62 (l_62 hn) rfl rfl rfl rfl (ble' rfl) (by decide) ?_
    refine aw_iconst (v := 1) dX6_readSemicolon_18 (by decide) ?_
    refine aw_zret rfl dX6_readSemicolon_19 rfl (ble' rfl) (ble' rfl) ?_
    exact pd_ih (by rw [smT, if_pos c5]; rfl) (by rw [smT, if_pos c5])
  · refine aw_aload_n dX6_readSemicolon_8 rfl ?_
    refine aw_iconst (v := 1) dX6_readSemicolon_9 (by decide) ?_
    refine ap_callVi kv_X6_86 ko_X6_fail (c_X6_fail (M := M) (l := nI L) (k := t.1) (s := nI t.2.1) (e := nI t.2.2.1) (v := t.2.2.2.1) (c := t.2.2.2.2.1) (p := t.2.2.2.2.2) hn _) dX6_readSemicolon_10 er_62 (l_62 hn) rfl rfl rfl rfl (ble' rfl) (by decide) ?_
    refine aw_zret rfl dX6_readSemicolon_13 rfl (ble' rfl) (ble' rfl) ?_
    exact pd_ih (by rw [smT, if_neg c5]; rfl) (by rw [smT, if_neg c5]; rfl)

set_option maxRecDepth 100000 in
set_option maxHeartbeats 4000000 in
theorem c_X6_readDay {G : AG} {M : Nat → Nat → Int32} {n : Nat} (hn : 72 ≤ n) {L : Nat} (hL : L ≤ 500) {t : RT} (hE : t.2.2.1 ≤ L) : AMet tX6_readDay yX6_readDay [Cond.code yX6_readDay cX6_readDay 2 (some .boolean)] [.ref 62] (wld G (rd M L t)) n (PD (.inl (some (.int (bI ((dyT M L t).1 = true))))) (wld G (rd (dyT M L t).2.1 L (dyT M L t).2.2)) n) := by
  refine am_of (lo := [_, _]) (by decide) rfl (fun q => by cases q) rfl rfl rfl ?_
  refine aw_aload_n dX6_readDay_0 rfl ?_
  refine ap_callVv kv_X6_52 ko_X6_step (c_X6_step (M := M) (t := t) hn hL hE) dX6_readDay_1 er_62 (l_62 hn) rfl rfl rfl rfl (ble' rfl) (by decide) ?_
  refine aw_aload_n dX6_readDay_4 rfl ?_
  refine aw_iconst (v := 0) dX6_readDay_5 (by decide) ?_
  refine aw_sipush (v := 999) dX6_readDay_6 (by decide) ?_
  refine ap_callVi kv_X6_99 ko_X6_readNumber (c_X6_readNumber (M := M) hn hL (step_E hE) _ _) dX6_readDay_9 er_62 (l_62 hn) rfl rfl rfl rfl (ble' rfl) (by decide) ?_
  refine aw_istore_n (lo' := [_, some (.int _)]) dX6_readDay_12 (by decide) rfl ?_
  refine aw_iload_n dX6_readDay_13 rfl ?_
  refine aw_iconst (v := -1) dX6_readDay_14 (by decide) ?_
  refine aw_icmp_ne 20 dX6_readDay_15 (by decide) (fun c15 => ?_) (fun c15 => ?_)
  · refine aw_aload_n dX6_readDay_20 rfl ?_
    refine aw_get fl_X6_37 dX6_readDay_21 er_62 (l_62 hn) rfl ?_
    refine aw_iload_n dX6_readDay_24 rfl ?_
    refine aw_put fp_X6_129_m dX6_readDay_25 er_28 (l_28 hn) (ble' rfl) (fun _ => ⟨rfl, rfl⟩) ((hwf rfl).trans (congrArg (wld G) (hrd (by decide)))) ?_
    refine aw_iconst (v := 1) dX6_readDay_28 (by decide) ?_
    refine aw_zret rfl dX6_readDay_29 rfl (ble' rfl) (ble' rfl) ?_
    exact pd_ih (by rw [dyT, if_neg c15]; rfl) (by rw [dyT, if_neg c15]; rfl)
  · refine aw_iconst (v := 0) dX6_readDay_18 (by decide) ?_
    refine aw_zret rfl dX6_readDay_19 rfl (ble' rfl) (ble' rfl) ?_
    exact pd_ih (by rw [dyT, if_pos c15]; rfl) (by rw [dyT, if_pos c15])

set_option maxRecDepth 100000 in
set_option maxHeartbeats 4000000 in
theorem c_X6_readClass {G : AG} {M : Nat → Nat → Int32} {n : Nat} (hn : 72 ≤ n) {L : Nat} (hL : L ≤ 500) {t : RT} (hE : t.2.2.1 ≤ L) {kc : Nat} (hc : M 29 3 = nI kc) (hc4 : kc ≤ 4) : AMet tX6_readClass yX6_readClass [Cond.code yX6_readClass cX6_readClass 4 (some .boolean)] [.ref 62] (wld G (rd M L t)) n (PD (.inl (some (.int (bI ((clT M L t).1 = true))))) (wld G (rd (clT M L t).2.1 L (clT M L t).2.2)) n) := by
  refine am_of (lo := [_, _, _, _]) (by decide) rfl (fun q => by cases q) rfl rfl rfl ?_
  refine aw_aload_n dX6_readClass_0 rfl ?_
  refine aw_get fl_X6_37 dX6_readClass_1 er_62 (l_62 hn) rfl ?_
  refine aw_get fl_X6_90 dX6_readClass_4 er_28 (l_28 hn) rfl ?_
  refine aw_get fl_X6_94 dX6_readClass_7 er_29 (l_29 hn) rfl ?_
  refine aw_iconst (v := 4) dX6_readClass_10 (by decide) ?_
  refine aw_icmp_lt 20 dX6_readClass_11 (by decide) (fun c11 => ?_) (fun c11 => ?_)
  · have n11 := Int32.not_le.mpr c11
    have hlt : kc < 4 := lt_of_lt hc (show (4 : Int32) = nI 4 from rfl) (by omega) (by decide) c11
    refine aw_aload_n dX6_readClass_20 rfl ?_
    refine ap_callVv kv_X6_52 ko_X6_step (c_X6_step (M := M) (t := t) hn hL hE) dX6_readClass_21 er_62 (l_62 hn) rfl rfl rfl rfl (ble' rfl) (by decide) ?_
    refine aw_aload_n dX6_readClass_24 rfl ?_
    refine aw_iconst (v := 1) dX6_readClass_25 (by decide) ?_
    refine aw_sipush (v := 200) dX6_readClass_26 (by decide) ?_
    refine ap_callVi kv_X6_99 ko_X6_readNumber (c_X6_readNumber (M := M) hn hL (step_E hE) _ _) dX6_readClass_29 er_62 (l_62 hn) rfl rfl rfl rfl (ble' rfl) (by decide) ?_
    refine aw_istore_n (lo' := [_, some (.int _), _, _]) dX6_readClass_32 (by decide) rfl ?_
    refine aw_iload_n dX6_readClass_33 rfl ?_
    refine aw_iconst (v := -1) dX6_readClass_34 (by decide) ?_
    refine aw_icmp_ne 42 dX6_readClass_35 (by decide) (fun c35 => ?_) (fun c35 => ?_)
    · refine aw_aload_n dX6_readClass_42 rfl ?_
      refine aw_iconst (v := 0) dX6_readClass_43 (by decide) ?_
      refine aw_iload_n dX6_readClass_44 rfl ?_
      refine ap_callVi kv_X6_99 ko_X6_readNumber (c_X6_readNumber (M := M) hn hL (num_E (step_E hE)) _ _) dX6_readClass_45 er_62 (l_62 hn) rfl rfl rfl rfl (ble' rfl) (by decide) ?_
      refine aw_istore_n (lo' := [_, _, some (.int _), _]) dX6_readClass_48 (by decide) rfl ?_
      refine aw_iload_n dX6_readClass_49 rfl ?_
      refine aw_iconst (v := -1) dX6_readClass_50 (by decide) ?_
      refine aw_icmp_ne 58 dX6_readClass_51 (by decide) (fun c51 => ?_) (fun c51 => ?_)
      · refine aw_aload_n dX6_readClass_58 rfl ?_
        refine aw_iconst (v := 0) dX6_readClass_59 (by decide) ?_
        refine aw_bipush (v := 16) dX6_readClass_60 (by decide) ?_
        refine ap_callVi kv_X6_99 ko_X6_readNumber (c_X6_readNumber (M := M) hn hL (num_E (num_E (step_E hE))) _ _) dX6_readClass_62 er_62 (l_62 hn) rfl rfl rfl rfl (ble' rfl) (by decide) ?_
        refine aw_istore_n (lo' := [_, _, _, some (.int _)]) dX6_readClass_65 (by decide) rfl ?_
        refine aw_iload_n dX6_readClass_66 rfl ?_
        refine aw_iconst (v := -1) dX6_readClass_67 (by decide) ?_
        refine aw_icmp_eq 92 dX6_readClass_68 (by decide) (fun c68 => ?_) (fun c68 => ?_)
        · refine aw_iconst (v := 0) dX6_readClass_92 (by decide) ?_
          refine aw_zret rfl dX6_readClass_93 rfl (ble' rfl) (ble' rfl) ?_
          exact pd_ih (by simp [clT, clC, clB, clA, nxt, c11, n11, c35, c51, c68, bI]) (by simp [clT, clC, clB, clA, nxt, c11, n11, c35, c51, c68, cl_of hc (by omega)])
        · refine aw_aload_n dX6_readClass_71 rfl ?_
          refine aw_get fl_X6_37 dX6_readClass_72 er_62 (l_62 hn) rfl ?_
          refine aw_get fl_X6_90 dX6_readClass_75 er_28 (l_28 hn) rfl ?_
          refine aw_iload_n dX6_readClass_78 rfl ?_
          refine aw_iload_n dX6_readClass_79 rfl ?_
          refine aw_iload_n dX6_readClass_80 rfl ?_
          refine ap_callVi kv_X6_102 ko_X2_add (c_X2_add_d (M := rd M L _) hn hc hlt _ _ _) dX6_readClass_81 er_29 (l_29 hn) rfl rfl rfl rfl (ble' rfl) (by decide) ?_
          rw [rd_C]
          refine aw_iconst (v := -1) dX6_readClass_84 (by decide) ?_
          refine aw_icmp_eq 92 dX6_readClass_85 (by decide) (fun q => absurd q (nI_neg1 (by omega))) (fun _ => ?_)
          refine aw_iconst (v := 1) dX6_readClass_88 (by decide) ?_
          refine aw_goto 93 dX6_readClass_89 (by decide) ?_
          refine aw_zret rfl dX6_readClass_93 rfl (ble' rfl) (ble' rfl) ?_
          exact pd_ih (by simp [clT, clC, clB, clA, nxt, c11, n11, c35, c51, c68, bI]) (by simp [clT, clC, clB, clA, nxt, c11, n11, c35, c51, c68, cl_of hc (by omega)])
      · refine aw_iconst (v := -1) dX6_readClass_54 (by decide) ?_
        refine aw_goto 65 dX6_readClass_55 (by decide) ?_
        refine aw_istore_n (lo' := [_, _, _, some (.int _)]) dX6_readClass_65 (by decide) rfl ?_
        refine aw_iload_n dX6_readClass_66 rfl ?_
        refine aw_iconst (v := -1) dX6_readClass_67 (by decide) ?_
        refine aw_icmp_eq 92 dX6_readClass_68 (by decide) (fun _ => ?_) (fun q => absurd q (by decide))
        refine aw_iconst (v := 0) dX6_readClass_92 (by decide) ?_
        refine aw_zret rfl dX6_readClass_93 rfl (ble' rfl) (ble' rfl) ?_
        exact pd_ih (by simp [clT, clC, clB, clA, nxt, c11, n11, c35, c51, bI]) (by simp [clT, clC, clB, clA, nxt, c11, n11, c35, c51, cl_of hc (by omega)])
    · refine aw_iconst (v := -1) dX6_readClass_38 (by decide) ?_
      refine aw_goto 48 dX6_readClass_39 (by decide) ?_
      refine aw_istore_n (lo' := [_, _, some (.int _), _]) dX6_readClass_48 (by decide) rfl ?_
      refine aw_iload_n dX6_readClass_49 rfl ?_
      refine aw_iconst (v := -1) dX6_readClass_50 (by decide) ?_
      refine aw_icmp_ne 58 dX6_readClass_51 (by decide) (fun q => absurd q (by decide)) (fun _ => ?_)
      refine aw_iconst (v := -1) dX6_readClass_54 (by decide) ?_
      refine aw_goto 65 dX6_readClass_55 (by decide) ?_
      refine aw_istore_n (lo' := [_, _, _, some (.int _)]) dX6_readClass_65 (by decide) rfl ?_
      refine aw_iload_n dX6_readClass_66 rfl ?_
      refine aw_iconst (v := -1) dX6_readClass_67 (by decide) ?_
      refine aw_icmp_eq 92 dX6_readClass_68 (by decide) (fun _ => ?_) (fun q => absurd q (by decide))
      refine aw_iconst (v := 0) dX6_readClass_92 (by decide) ?_
      refine aw_zret rfl dX6_readClass_93 rfl (ble' rfl) (ble' rfl) ?_
      exact pd_ih (by simp [clT, clC, clB, clA, nxt, c11, n11, c35, bI]) (by simp [clT, clC, clB, clA, nxt, c11, n11, c35, cl_of hc (by omega)])
  · have n11 := Int32.not_lt.mp c11
    refine aw_aload_n dX6_readClass_14 rfl ?_
    refine aw_iconst (v := 3) dX6_readClass_15 (by decide) ?_
    refine ap_callVi kv_X6_86 ko_X6_fail (c_X6_fail (M := M) (l := nI L) (k := t.1) (s := nI t.2.1) (e := nI t.2.2.1) (v := t.2.2.2.1) (c := t.2.2.2.2.1) (p := t.2.2.2.2.2) hn _) dX6_readClass_16 er_62 (l_62 hn) rfl rfl rfl rfl (ble' rfl) (by decide) ?_
    refine aw_zret rfl dX6_readClass_19 rfl (ble' rfl) (ble' rfl) ?_
    exact pd_ih (by rw [clT, if_pos n11]; rfl) (by rw [clT, if_pos n11]; rfl)

set_option maxRecDepth 100000 in
set_option maxHeartbeats 4000000 in
theorem c_X6_readSeason {G : AG} {M : Nat → Nat → Int32} {n : Nat} (hn : 72 ≤ n) {L : Nat} (hL : L ≤ 500) {t : RT} (hE : t.2.2.1 ≤ L) {kz : Nat} (hz : M 36 5 = nI kz) (hz4 : kz ≤ 12) : AMet tX6_readSeason yX6_readSeason [Cond.code yX6_readSeason cX6_readSeason 6 (some .boolean)] [.ref 62] (wld G (rd M L t)) n (PD (.inl (some (.int (bI ((szT M L t).1 = true))))) (wld G (rd (szT M L t).2.1 L (szT M L t).2.2)) n) := by
  refine am_of (lo := [_, _, _, _, _, _]) (by decide) rfl (fun q => by cases q) rfl rfl rfl ?_
  refine aw_aload_n dX6_readSeason_0 rfl ?_
  refine aw_get fl_X6_37 dX6_readSeason_1 er_62 (l_62 hn) rfl ?_
  refine aw_get fl_X6_119 dX6_readSeason_4 er_28 (l_28 hn) rfl ?_
  refine aw_get fl_X6_123 dX6_readSeason_7 er_36 (l_36 hn) rfl ?_
  refine aw_bipush (v := 12) dX6_readSeason_10 (by decide) ?_
  refine aw_icmp_lt 21 dX6_readSeason_12 (by decide) (fun c12 => ?_) (fun c12 => ?_)
  · have n12 := Int32.not_le.mpr c12
    have hlt : kz < 12 := lt_of_lt hz (show (12 : Int32) = nI 12 from rfl) (by omega) (by decide) c12
    refine aw_aload_n dX6_readSeason_21 rfl ?_
    refine ap_callVv kv_X6_52 ko_X6_step (c_X6_step (M := M) (t := t) hn hL hE) dX6_readSeason_22 er_62 (l_62 hn) rfl rfl rfl rfl (ble' rfl) (by decide) ?_
    refine aw_aload_n dX6_readSeason_25 rfl ?_
    refine aw_iconst (v := 0) dX6_readSeason_26 (by decide) ?_
    refine aw_aload_n dX6_readSeason_27 rfl ?_
    refine aw_get fl_X6_37 dX6_readSeason_28 er_62 (l_62 hn) rfl ?_
    refine aw_get fl_X6_90 dX6_readSeason_31 er_28 (l_28 hn) rfl ?_
    refine aw_get fl_X6_94 dX6_readSeason_34 er_29 (l_29 hn) rfl ?_
    refine aw_iconst (v := 1) dX6_readSeason_37 (by decide) ?_
    refine aw_isub dX6_readSeason_38 ?_
    refine ap_callVi kv_X6_99 ko_X6_readNumber (c_X6_readNumber (M := M) hn hL (step_E hE) _ _) dX6_readSeason_39 er_62 (l_62 hn) rfl rfl rfl rfl (ble' rfl) (by decide) ?_
    refine aw_istore_n (lo' := [_, some (.int _), _, _, _, _]) dX6_readSeason_42 (by decide) rfl ?_
    refine aw_iload_n dX6_readSeason_43 rfl ?_
    refine aw_iconst (v := -1) dX6_readSeason_44 (by decide) ?_
    refine aw_icmp_ne 52 dX6_readSeason_45 (by decide) (fun c45 => ?_) (fun c45 => ?_)
    · refine aw_aload_n dX6_readSeason_52 rfl ?_
      refine aw_iconst (v := 0) dX6_readSeason_53 (by decide) ?_
      refine aw_sipush (v := 999) dX6_readSeason_54 (by decide) ?_
      refine ap_callVi kv_X6_99 ko_X6_readNumber (c_X6_readNumber (M := M) hn hL (num_E (step_E hE)) _ _) dX6_readSeason_57 er_62 (l_62 hn) rfl rfl rfl rfl (ble' rfl) (by decide) ?_
      refine aw_istore_n (lo' := [_, _, some (.int _), _, _, _]) dX6_readSeason_60 (by decide) rfl ?_
      refine aw_iload_n dX6_readSeason_61 rfl ?_
      refine aw_iconst (v := -1) dX6_readSeason_62 (by decide) ?_
      refine aw_icmp_ne 70 dX6_readSeason_63 (by decide) (fun c63 => ?_) (fun c63 => ?_)
      · refine aw_aload_n dX6_readSeason_70 rfl ?_
        refine aw_iload_n dX6_readSeason_71 rfl ?_
        refine aw_sipush (v := 999) dX6_readSeason_72 (by decide) ?_
        refine ap_callVi kv_X6_99 ko_X6_readNumber (c_X6_readNumber (M := M) hn hL (num_E (num_E (step_E hE))) _ _) dX6_readSeason_75 er_62 (l_62 hn) rfl rfl rfl rfl (ble' rfl) (by decide) ?_
        refine aw_istore_n (lo' := [_, _, _, some (.int _), _, _]) dX6_readSeason_78 (by decide) rfl ?_
        refine aw_iload_n dX6_readSeason_79 rfl ?_
        refine aw_iconst (v := -1) dX6_readSeason_80 (by decide) ?_
        refine aw_icmp_ne 88 dX6_readSeason_81 (by decide) (fun c81 => ?_) (fun c81 => ?_)
        · refine aw_aload_n dX6_readSeason_88 rfl ?_
          refine aw_iconst (v := 1) dX6_readSeason_89 (by decide) ?_
          refine aw_bipush (v := 14) dX6_readSeason_90 (by decide) ?_
          refine ap_callVi kv_X6_99 ko_X6_readNumber (c_X6_readNumber (M := M) hn hL (num_E (num_E (num_E (step_E hE)))) _ _) dX6_readSeason_92 er_62 (l_62 hn) rfl rfl rfl rfl (ble' rfl) (by decide) ?_
          refine aw_istore (lo' := [_, _, _, _, some (.int _), _]) dX6_readSeason_95 (by decide) rfl ?_
          refine aw_iload dX6_readSeason_97 rfl ?_
          refine aw_iconst (v := -1) dX6_readSeason_99 (by decide) ?_
          refine aw_icmp_ne 107 dX6_readSeason_100 (by decide) (fun c100 => ?_) (fun c100 => ?_)
          · refine aw_aload_n dX6_readSeason_107 rfl ?_
            refine aw_iconst (v := 0) dX6_readSeason_108 (by decide) ?_
            refine aw_sipush (v := 9999) dX6_readSeason_109 (by decide) ?_
            refine ap_callVi kv_X6_99 ko_X6_readNumber (c_X6_readNumber (M := M) hn hL (num_E (num_E (num_E (num_E (step_E hE))))) _ _) dX6_readSeason_112 er_62 (l_62 hn) rfl rfl rfl rfl (ble' rfl) (by decide) ?_
            refine aw_istore (lo' := [_, _, _, _, _, some (.int _)]) dX6_readSeason_115 (by decide) rfl ?_
            refine aw_iload dX6_readSeason_117 rfl ?_
            refine aw_iconst (v := -1) dX6_readSeason_119 (by decide) ?_
            refine aw_icmp_eq 148 dX6_readSeason_120 (by decide) (fun c120 => ?_) (fun c120 => ?_)
            · refine aw_iconst (v := 0) dX6_readSeason_148 (by decide) ?_
              refine aw_zret rfl dX6_readSeason_149 rfl (ble' rfl) (ble' rfl) ?_
              exact pd_ih (by simp [szT, szE, szD, szC, szB, szA, nxt, c12, n12, c45, c63, c81, c100, c120, bI]) (by simp [szT, szE, szD, szC, szB, szA, nxt, c12, n12, c45, c63, c81, c100, c120, cl_of hz (by omega)])
            · refine aw_aload_n dX6_readSeason_123 rfl ?_
              refine aw_get fl_X6_37 dX6_readSeason_124 er_62 (l_62 hn) rfl ?_
              refine aw_get fl_X6_119 dX6_readSeason_127 er_28 (l_28 hn) rfl ?_
              refine aw_iload_n dX6_readSeason_130 rfl ?_
              refine aw_iload_n dX6_readSeason_131 rfl ?_
              refine aw_iload_n dX6_readSeason_132 rfl ?_
              refine aw_iload dX6_readSeason_133 rfl ?_
              refine aw_iload dX6_readSeason_135 rfl ?_
              refine ap_callVi kv_X6_126 ko_X5_add (c_X5_add_d (M := rd M L _) hn hz hlt _ _ _ _ _) dX6_readSeason_137 er_36 (l_36 hn) rfl rfl rfl rfl (ble' rfl) (by decide) ?_
              rw [rd_Z]
              refine aw_iconst (v := -1) dX6_readSeason_140 (by decide) ?_
              refine aw_icmp_eq 148 dX6_readSeason_141 (by decide) (fun q => absurd q (nI_neg1 (by omega))) (fun _ => ?_)
              refine aw_iconst (v := 1) dX6_readSeason_144 (by decide) ?_
              refine aw_goto 149 dX6_readSeason_145 (by decide) ?_
              refine aw_zret rfl dX6_readSeason_149 rfl (ble' rfl) (ble' rfl) ?_
              exact pd_ih (by simp [szT, szE, szD, szC, szB, szA, nxt, c12, n12, c45, c63, c81, c100, c120, bI]) (by simp [szT, szE, szD, szC, szB, szA, nxt, c12, n12, c45, c63, c81, c100, c120, cl_of hz (by omega)])
          · refine aw_iconst (v := -1) dX6_readSeason_103 (by decide) ?_
            refine aw_goto 115 dX6_readSeason_104 (by decide) ?_
            refine aw_istore (lo' := [_, _, _, _, _, some (.int _)]) dX6_readSeason_115 (by decide) rfl ?_
            refine aw_iload dX6_readSeason_117 rfl ?_
            refine aw_iconst (v := -1) dX6_readSeason_119 (by decide) ?_
            refine aw_icmp_eq 148 dX6_readSeason_120 (by decide) (fun _ => ?_) (fun q => absurd q (by decide))
            refine aw_iconst (v := 0) dX6_readSeason_148 (by decide) ?_
            refine aw_zret rfl dX6_readSeason_149 rfl (ble' rfl) (ble' rfl) ?_
            exact pd_ih (by simp [szT, szE, szD, szC, szB, szA, nxt, c12, n12, c45, c63, c81, c100, bI]) (by simp [szT, szE, szD, szC, szB, szA, nxt, c12, n12, c45, c63, c81, c100, cl_of hz (by omega)])
        · refine aw_iconst (v := -1) dX6_readSeason_84 (by decide) ?_
          refine aw_goto 95 dX6_readSeason_85 (by decide) ?_
          refine aw_istore (lo' := [_, _, _, _, some (.int _), _]) dX6_readSeason_95 (by decide) rfl ?_
          refine aw_iload dX6_readSeason_97 rfl ?_
          refine aw_iconst (v := -1) dX6_readSeason_99 (by decide) ?_
          refine aw_icmp_ne 107 dX6_readSeason_100 (by decide) (fun q => absurd q (by decide)) (fun _ => ?_)
          refine aw_iconst (v := -1) dX6_readSeason_103 (by decide) ?_
          refine aw_goto 115 dX6_readSeason_104 (by decide) ?_
          refine aw_istore (lo' := [_, _, _, _, _, some (.int _)]) dX6_readSeason_115 (by decide) rfl ?_
          refine aw_iload dX6_readSeason_117 rfl ?_
          refine aw_iconst (v := -1) dX6_readSeason_119 (by decide) ?_
          refine aw_icmp_eq 148 dX6_readSeason_120 (by decide) (fun _ => ?_) (fun q => absurd q (by decide))
          refine aw_iconst (v := 0) dX6_readSeason_148 (by decide) ?_
          refine aw_zret rfl dX6_readSeason_149 rfl (ble' rfl) (ble' rfl) ?_
          exact pd_ih (by simp [szT, szE, szD, szC, szB, szA, nxt, c12, n12, c45, c63, c81, bI]) (by simp [szT, szE, szD, szC, szB, szA, nxt, c12, n12, c45, c63, c81, cl_of hz (by omega)])
      · refine aw_iconst (v := -1) dX6_readSeason_66 (by decide) ?_
        refine aw_goto 78 dX6_readSeason_67 (by decide) ?_
        refine aw_istore_n (lo' := [_, _, _, some (.int _), _, _]) dX6_readSeason_78 (by decide) rfl ?_
        refine aw_iload_n dX6_readSeason_79 rfl ?_
        refine aw_iconst (v := -1) dX6_readSeason_80 (by decide) ?_
        refine aw_icmp_ne 88 dX6_readSeason_81 (by decide) (fun q => absurd q (by decide)) (fun _ => ?_)
        refine aw_iconst (v := -1) dX6_readSeason_84 (by decide) ?_
        refine aw_goto 95 dX6_readSeason_85 (by decide) ?_
        refine aw_istore (lo' := [_, _, _, _, some (.int _), _]) dX6_readSeason_95 (by decide) rfl ?_
        refine aw_iload dX6_readSeason_97 rfl ?_
        refine aw_iconst (v := -1) dX6_readSeason_99 (by decide) ?_
        refine aw_icmp_ne 107 dX6_readSeason_100 (by decide) (fun q => absurd q (by decide)) (fun _ => ?_)
        refine aw_iconst (v := -1) dX6_readSeason_103 (by decide) ?_
        refine aw_goto 115 dX6_readSeason_104 (by decide) ?_
        refine aw_istore (lo' := [_, _, _, _, _, some (.int _)]) dX6_readSeason_115 (by decide) rfl ?_
        refine aw_iload dX6_readSeason_117 rfl ?_
        refine aw_iconst (v := -1) dX6_readSeason_119 (by decide) ?_
        refine aw_icmp_eq 148 dX6_readSeason_120 (by decide) (fun _ => ?_) (fun q => absurd q (by decide))
        refine aw_iconst (v := 0) dX6_readSeason_148 (by decide) ?_
        refine aw_zret rfl dX6_readSeason_149 rfl (ble' rfl) (ble' rfl) ?_
        exact pd_ih (by simp [szT, szE, szD, szC, szB, szA, nxt, c12, n12, c45, c63, bI]) (by simp [szT, szE, szD, szC, szB, szA, nxt, c12, n12, c45, c63, cl_of hz (by omega)])
    · refine aw_iconst (v := -1) dX6_readSeason_48 (by decide) ?_
      refine aw_goto 60 dX6_readSeason_49 (by decide) ?_
      refine aw_istore_n (lo' := [_, _, some (.int _), _, _, _]) dX6_readSeason_60 (by decide) rfl ?_
      refine aw_iload_n dX6_readSeason_61 rfl ?_
      refine aw_iconst (v := -1) dX6_readSeason_62 (by decide) ?_
      refine aw_icmp_ne 70 dX6_readSeason_63 (by decide) (fun q => absurd q (by decide)) (fun _ => ?_)
      refine aw_iconst (v := -1) dX6_readSeason_66 (by decide) ?_
      refine aw_goto 78 dX6_readSeason_67 (by decide) ?_
      refine aw_istore_n (lo' := [_, _, _, some (.int _), _, _]) dX6_readSeason_78 (by decide) rfl ?_
      refine aw_iload_n dX6_readSeason_79 rfl ?_
      refine aw_iconst (v := -1) dX6_readSeason_80 (by decide) ?_
      refine aw_icmp_ne 88 dX6_readSeason_81 (by decide) (fun q => absurd q (by decide)) (fun _ => ?_)
      refine aw_iconst (v := -1) dX6_readSeason_84 (by decide) ?_
      refine aw_goto 95 dX6_readSeason_85 (by decide) ?_
      refine aw_istore (lo' := [_, _, _, _, some (.int _), _]) dX6_readSeason_95 (by decide) rfl ?_
      refine aw_iload dX6_readSeason_97 rfl ?_
      refine aw_iconst (v := -1) dX6_readSeason_99 (by decide) ?_
      refine aw_icmp_ne 107 dX6_readSeason_100 (by decide) (fun q => absurd q (by decide)) (fun _ => ?_)
      refine aw_iconst (v := -1) dX6_readSeason_103 (by decide) ?_
      refine aw_goto 115 dX6_readSeason_104 (by decide) ?_
      refine aw_istore (lo' := [_, _, _, _, _, some (.int _)]) dX6_readSeason_115 (by decide) rfl ?_
      refine aw_iload dX6_readSeason_117 rfl ?_
      refine aw_iconst (v := -1) dX6_readSeason_119 (by decide) ?_
      refine aw_icmp_eq 148 dX6_readSeason_120 (by decide) (fun _ => ?_) (fun q => absurd q (by decide))
      refine aw_iconst (v := 0) dX6_readSeason_148 (by decide) ?_
      refine aw_zret rfl dX6_readSeason_149 rfl (ble' rfl) (ble' rfl) ?_
      exact pd_ih (by simp [szT, szE, szD, szC, szB, szA, nxt, c12, n12, c45, bI]) (by simp [szT, szE, szD, szC, szB, szA, nxt, c12, n12, c45, cl_of hz (by omega)])
  · have n12 := Int32.not_lt.mp c12
    refine aw_aload_n dX6_readSeason_15 rfl ?_
    refine aw_iconst (v := 3) dX6_readSeason_16 (by decide) ?_
    refine ap_callVi kv_X6_86 ko_X6_fail (c_X6_fail (M := M) (l := nI L) (k := t.1) (s := nI t.2.1) (e := nI t.2.2.1) (v := t.2.2.2.1) (c := t.2.2.2.2.1) (p := t.2.2.2.2.2) hn _) dX6_readSeason_17 er_62 (l_62 hn) rfl rfl rfl rfl (ble' rfl) (by decide) ?_
    refine aw_zret rfl dX6_readSeason_20 rfl (ble' rfl) (ble' rfl) ?_
    exact pd_ih (by rw [szT, if_pos n12]; rfl) (by rw [szT, if_pos n12]; rfl)
