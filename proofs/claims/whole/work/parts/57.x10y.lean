def pc2 (x : Nat → Int32) (L : Nat) (M : Nat → Nat → Int32) (t : RV) : RV := advV x L (rqV (M 64 1 < 4) 3 t)
def pc3 (x : Nat → Int32) (L : Nat) (M : Nat → Nat → Int32) (t : RV) : RV := pnV x L 1 200 (pc2 x L M t)
def pc4 (x : Nat → Int32) (L : Nat) (M : Nat → Nat → Int32) (t : RV) : RV := pnV x L 0 (pc2 x L M t).2.2.2.2.1 (pc3 x L M t)
def pc5 (x : Nat → Int32) (L : Nat) (M : Nat → Nat → Int32) (t : RV) : RV := pnV x L 0 16 (pc4 x L M t)
/-- a class read -/
def pcV (L : Nat) (M : Nat → Nat → Int32) (t : RV) : (Nat → Nat → Int32) × RV := if (pc5 (M 70) L M t).2.2.2.2.2.1 = 0 then (appendClassM M (M 64 1).toNatClampNeg (pc2 (M 70) L M t).2.2.2.2.1 (pc3 (M 70) L M t).2.2.2.2.1 (pc4 (M 70) L M t).2.2.2.2.1, pc5 (M 70) L M t) else (M, pc5 (M 70) L M t)
def pz2 (x : Nat → Int32) (L : Nat) (M : Nat → Nat → Int32) (t : RV) : RV := advV x L (rqV (M 64 3 < 12) 3 t)
def pz3 (x : Nat → Int32) (L : Nat) (M : Nat → Nat → Int32) (t : RV) : RV := pnV x L 0 (M 64 1 - 1) (pz2 x L M t)
def pz4 (x : Nat → Int32) (L : Nat) (M : Nat → Nat → Int32) (t : RV) : RV := pnV x L 0 999 (pz3 x L M t)
def pz5 (x : Nat → Int32) (L : Nat) (M : Nat → Nat → Int32) (t : RV) : RV := pnV x L (pz3 x L M t).2.2.2.2.1 999 (pz4 x L M t)
def pz6 (x : Nat → Int32) (L : Nat) (M : Nat → Nat → Int32) (t : RV) : RV := pnV x L 1 14 (pz5 x L M t)
def pz7 (x : Nat → Int32) (L : Nat) (M : Nat → Nat → Int32) (t : RV) : RV := pnV x L 0 9999 (pz6 x L M t)
/-- a season read -/
def pzV (L : Nat) (M : Nat → Nat → Int32) (t : RV) : (Nat → Nat → Int32) × RV := if (pz7 (M 70) L M t).2.2.2.2.2.1 = 0 then (appendSeasonM M (M 64 3).toNatClampNeg (pz2 (M 70) L M t).2.2.2.2.1 (pz3 (M 70) L M t).2.2.2.2.1 (pz4 (M 70) L M t).2.2.2.2.1 (pz5 (M 70) L M t).2.2.2.2.1 (pz6 (M 70) L M t).2.2.2.2.1, pz7 (M 70) L M t) else (M, pz7 (M 70) L M t)
def ps1 (M : Nat → Nat → Int32) (t : RV) : RV := rqV (¬ t.1 = 3 ∨ ¬ (0 ≤ t.2.2.2.2.1 ∧ t.2.2.2.2.1 ≤ M 64 1 - 1) ∨ M 64 2 < 16) 3 t
def ps2 (x : Nat → Int32) (L : Nat) (M : Nat → Nat → Int32) (t : RV) : RV := pnV x L 0 (M 64 1 - 1) (ps1 M t)
/-- the sites of a statement read -/
def siV (L : Nat) : Nat → (Nat → Nat → Int32) → RV → (Nat → Nat → Int32) × RV
  | 0, M, t => (M, t)
  | f + 1, M, t => if ¬ (ps2 (M 70) L M t).2.2.2.2.2.1 = 0 then (M, ps2 (M 70) L M t) else if (ps2 (M 70) L M t).1 = 3 then siV L f (appendSiteM M (M 64 2).toNatClampNeg t.2.2.2.2.1) (ps2 (M 70) L M t) else (appendSiteM M (M 64 2).toNatClampNeg t.2.2.2.2.1, ps2 (M 70) L M t)
def pd2 (x : Nat → Int32) (L : Nat) (t : RV) : RV := advV x L (rqV (isWV t 3 = true) 1 t)
def pd3 (x : Nat → Int32) (L : Nat) (t : RV) : RV := pnV x L 0 999 (pd2 x L t)
def pdV (L : Nat) (M : Nat → Nat → Int32) (t : RV) : (Nat → Nat → Int32) × RV := (w64 M 0 (if (pd3 (M 70) L t).2.2.2.2.2.1 = 0 then (pd2 (M 70) L t).2.2.2.2.1 else M 64 0), pd3 (M 70) L t)
def smV (L : Nat) (r : (Nat → Nat → Int32) × RV) : (Nat → Nat → Int32) × RV := (r.1, advV (r.1 70) L (rqV (r.2.1 = 4) 1 r.2))
/-- a statement read -/
def stV (L : Nat) (M : Nat → Nat → Int32) (t : RV) : (Nat → Nat → Int32) × RV := smV L (if isWV t 0 = true then pcV L M t else if isWV t 1 = true then siV L 17 M (advV (M 70) L t) else if isWV t 2 = true then pzV L M t else pdV L M t)
theorem apC_rv {M : Nat → Nat → Int32} {t : RV} {k : Nat} {a b c : Int32} : appendClassM (rv M t) k a b c = rv (appendClassM M k a b c) t := by
  unfold appendClassM; rw [w64_rv, w64_rv, w64_rv, w64_rv]
theorem apS_rv {M : Nat → Nat → Int32} {t : RV} {k : Nat} {a : Int32} : appendSiteM (rv M t) k a = rv (appendSiteM M k a) t := by
  unfold appendSiteM; rw [w64_rv, w64_rv, w64_rv]
theorem apZ_rv {M : Nat → Nat → Int32} {t : RV} {k : Nat} {a b c d e : Int32} : appendSeasonM (rv M t) k a b c d e = rv (appendSeasonM M k a b c d e) t := by
  unfold appendSeasonM; rw [w64_rv, w64_rv, w64_rv, w64_rv, w64_rv, w64_rv]
set_option maxRecDepth 100000 in
set_option maxHeartbeats 4000000 in
theorem c_X10_parseClass {G : AG} {M : Nat → Nat → Int32} {n : Nat} (hn : 72 ≤ n) {L : Nat} (hl : M 63 10 = nI L) (hL : L ≤ 500) (hx : ∀ i, i < 500 → ¬ M 70 i = -1) {t : RV} (hE : t.2.2.1 ≤ L) {kc : Nat} (hc : M 64 1 = nI kc) (hc4 : kc ≤ 4) : AMet tX10_parseClass yX10_parseClass [Cond.code yX10_parseClass cX10_parseClass 5 none] [.ref 63] (wld (gv G t) (rv M t)) n (PD (.inl none) (wld (gv G (pcV L M t).2) (rv (pcV L M t).1 (pcV L M t).2)) n) := by
  refine am_of (lo := [_, _, _, _, _]) (by decide) rfl (fun q => by cases q) rfl rfl rfl ?_
  refine aw_aload_n dX10_parseClass_0 rfl ?_
  refine aw_aload_n dX10_parseClass_1 rfl ?_
  refine aw_get fl_X10_7 dX10_parseClass_2 ev_63 (l_63 hn) rfl ?_
  refine aw_iconst (v := 1) dX10_parseClass_5 (by decide) ?_
  refine aw_ialdk dX10_parseClass_6 ev_64 (l_64 hn) (show (1 : Int32) = nI 1 from rfl) (by decide) rfl ?_
  refine aw_iconst (v := 4) dX10_parseClass_7 (by decide) ?_
  refine aw_icmp_ge 15 dX10_parseClass_8 (by decide) (fun c8 => ?_) (fun c8 => ?_)
  · have n8 := Int32.not_lt.mpr c8
    refine aw_iconst (v := 0) dX10_parseClass_15 (by decide) ?_
    refine aw_iconst (v := 3) dX10_parseClass_16 (by decide) ?_
    refine ap_callVv kv_X10_264 ko_X10_require (c_X10_require (t := t) hn _ 3) dX10_parseClass_17 ev_63 (l_63 hn) rfl rfl rfl rfl (ble' rfl) (by decide) ?_
    rw [rq_0 (P := M 64 1 < 4) n8]
    obtain ⟨t1, ht1⟩ : ∃ t9, t9 = rqV (M 64 1 < 4) 3 t := ⟨_, rfl⟩
    rw [← ht1]
    refine aw_aload_n dX10_parseClass_20 rfl ?_
    refine ap_callVv kv_X10_268 ko_X10_advanceToken (c_X10_advanceToken hn hl hL hx (t := t1) (by rw [ht1]; exact rq_E hE)) dX10_parseClass_21 ev_63 (l_63 hn) rfl rfl rfl rfl (ble' rfl) (by decide) ?_
    obtain ⟨t2, ht2⟩ : ∃ t9, t9 = advV (M 70) L t1 := ⟨_, rfl⟩
    have Et2 : t2.2.2.1 ≤ L := by rw [ht2]; exact adv_E (by rw [ht1]; exact rq_E hE)
    rw [← ht2]
    refine aw_aload_n dX10_parseClass_24 rfl ?_
    refine aw_iconst (v := 1) dX10_parseClass_25 (by decide) ?_
    refine aw_sipush (v := 200) dX10_parseClass_26 (by decide) ?_
    refine ap_callVi kv_X10_271 ko_X10_parseNumber (c_X10_parseNumber hn hl hL hx (t := t2) Et2 _ _) dX10_parseClass_29 ev_63 (l_63 hn) rfl rfl rfl rfl (ble' rfl) (by decide) ?_
    obtain ⟨t3, ht3⟩ : ∃ t9, t9 = pnV (M 70) L 1 200 t2 := ⟨_, rfl⟩
    have Et3 : t3.2.2.1 ≤ L := by rw [ht3]; exact pn_E Et2
    rw [← ht3]
    refine aw_istore_n (lo' := [_, some (.int _), _, _, _]) dX10_parseClass_32 (by decide) rfl ?_
    refine aw_aload_n dX10_parseClass_33 rfl ?_
    refine aw_iconst (v := 0) dX10_parseClass_34 (by decide) ?_
    refine aw_iload_n dX10_parseClass_35 rfl ?_
    refine ap_callVi kv_X10_271 ko_X10_parseNumber (c_X10_parseNumber hn hl hL hx (t := t3) Et3 _ _) dX10_parseClass_36 ev_63 (l_63 hn) rfl rfl rfl rfl (ble' rfl) (by decide) ?_
    obtain ⟨t4, ht4⟩ : ∃ t9, t9 = pnV (M 70) L 0 t2.2.2.2.2.1 t3 := ⟨_, rfl⟩
    have Et4 : t4.2.2.1 ≤ L := by rw [ht4]; exact pn_E Et3
    rw [← ht4]
    refine aw_istore_n (lo' := [_, _, some (.int _), _, _]) dX10_parseClass_39 (by decide) rfl ?_
    refine aw_aload_n dX10_parseClass_40 rfl ?_
    refine aw_iconst (v := 0) dX10_parseClass_41 (by decide) ?_
    refine aw_bipush (v := 16) dX10_parseClass_42 (by decide) ?_
    refine ap_callVi kv_X10_271 ko_X10_parseNumber (c_X10_parseNumber hn hl hL hx (t := t4) Et4 _ _) dX10_parseClass_44 ev_63 (l_63 hn) rfl rfl rfl rfl (ble' rfl) (by decide) ?_
    obtain ⟨t5, ht5⟩ : ∃ t9, t9 = pnV (M 70) L 0 16 t4 := ⟨_, rfl⟩
    have Et5 : t5.2.2.1 ≤ L := by rw [ht5]; exact pn_E Et4
    rw [← ht5]
    refine aw_istore_n (lo' := [_, _, _, some (.int _), _]) dX10_parseClass_47 (by decide) rfl ?_
    refine aw_aload_n dX10_parseClass_48 rfl ?_
    refine aw_get fl_X10_258 dX10_parseClass_49 ev_63 (l_63 hn) rfl ?_
    refine aw_if_ne 64 dX10_parseClass_52 (by decide) (fun _ => ?_) (fun q => absurd (rq_ec (P := M 64 1 < 4) (c := 3) (t := t) (by decide) (by rw [← ht1, ← adv_ec (x := M 70) (L := L), ← ht2]; exact (pn_ec (by rw [← ht3]; exact (pn_ec (by rw [← ht4]; exact (pn_ec (by rw [← ht5]; exact q)).2)).2)).2)).1 n8)
    refine aw_vret rfl dX10_parseClass_64 (ble' rfl) (ble' rfl) ?_
    have c52 : ¬ t5.2.2.2.2.2.1 = 0 := fun q => absurd (rq_ec (P := M 64 1 < 4) (c := 3) (t := t) (by decide) (by rw [← ht1, ← adv_ec (x := M 70) (L := L), ← ht2]; exact (pn_ec (by rw [← ht3]; exact (pn_ec (by rw [← ht4]; exact (pn_ec (by rw [← ht5]; exact q)).2)).2)).2)).1 n8
    have f2 : t2 = pc2 (M 70) L M t := by rw [ht2, ht1]; rfl
    have f3 : t3 = pc3 (M 70) L M t := by rw [ht3, f2]; rfl
    have f4 : t4 = pc4 (M 70) L M t := by rw [ht4, f3, f2]; rfl
    have f5 : t5 = pc5 (M 70) L M t := by rw [ht5, f4]; rfl
    exact pd_v (by rw [pcV, if_neg (by rw [← f5]; exact c52), ← f5])
  · have n8 := Int32.not_le.mp c8
    refine aw_iconst (v := 1) dX10_parseClass_11 (by decide) ?_
    refine aw_goto 16 dX10_parseClass_12 (by decide) ?_
    refine aw_iconst (v := 3) dX10_parseClass_16 (by decide) ?_
    refine ap_callVv kv_X10_264 ko_X10_require (c_X10_require (t := t) hn _ 3) dX10_parseClass_17 ev_63 (l_63 hn) rfl rfl rfl rfl (ble' rfl) (by decide) ?_
    rw [rq_1 (P := M 64 1 < 4) n8]
    obtain ⟨t1, ht1⟩ : ∃ t9, t9 = rqV (M 64 1 < 4) 3 t := ⟨_, rfl⟩
    rw [← ht1]
    refine aw_aload_n dX10_parseClass_20 rfl ?_
    refine ap_callVv kv_X10_268 ko_X10_advanceToken (c_X10_advanceToken hn hl hL hx (t := t1) (by rw [ht1]; exact rq_E hE)) dX10_parseClass_21 ev_63 (l_63 hn) rfl rfl rfl rfl (ble' rfl) (by decide) ?_
    obtain ⟨t2, ht2⟩ : ∃ t9, t9 = advV (M 70) L t1 := ⟨_, rfl⟩
    have Et2 : t2.2.2.1 ≤ L := by rw [ht2]; exact adv_E (by rw [ht1]; exact rq_E hE)
    rw [← ht2]
    refine aw_aload_n dX10_parseClass_24 rfl ?_
    refine aw_iconst (v := 1) dX10_parseClass_25 (by decide) ?_
    refine aw_sipush (v := 200) dX10_parseClass_26 (by decide) ?_
    refine ap_callVi kv_X10_271 ko_X10_parseNumber (c_X10_parseNumber hn hl hL hx (t := t2) Et2 _ _) dX10_parseClass_29 ev_63 (l_63 hn) rfl rfl rfl rfl (ble' rfl) (by decide) ?_
    obtain ⟨t3, ht3⟩ : ∃ t9, t9 = pnV (M 70) L 1 200 t2 := ⟨_, rfl⟩
    have Et3 : t3.2.2.1 ≤ L := by rw [ht3]; exact pn_E Et2
    rw [← ht3]
    refine aw_istore_n (lo' := [_, some (.int _), _, _, _]) dX10_parseClass_32 (by decide) rfl ?_
    refine aw_aload_n dX10_parseClass_33 rfl ?_
    refine aw_iconst (v := 0) dX10_parseClass_34 (by decide) ?_
    refine aw_iload_n dX10_parseClass_35 rfl ?_
    refine ap_callVi kv_X10_271 ko_X10_parseNumber (c_X10_parseNumber hn hl hL hx (t := t3) Et3 _ _) dX10_parseClass_36 ev_63 (l_63 hn) rfl rfl rfl rfl (ble' rfl) (by decide) ?_
    obtain ⟨t4, ht4⟩ : ∃ t9, t9 = pnV (M 70) L 0 t2.2.2.2.2.1 t3 := ⟨_, rfl⟩
    have Et4 : t4.2.2.1 ≤ L := by rw [ht4]; exact pn_E Et3
    rw [← ht4]
    refine aw_istore_n (lo' := [_, _, some (.int _), _, _]) dX10_parseClass_39 (by decide) rfl ?_
    refine aw_aload_n dX10_parseClass_40 rfl ?_
    refine aw_iconst (v := 0) dX10_parseClass_41 (by decide) ?_
    refine aw_bipush (v := 16) dX10_parseClass_42 (by decide) ?_
    refine ap_callVi kv_X10_271 ko_X10_parseNumber (c_X10_parseNumber hn hl hL hx (t := t4) Et4 _ _) dX10_parseClass_44 ev_63 (l_63 hn) rfl rfl rfl rfl (ble' rfl) (by decide) ?_
    obtain ⟨t5, ht5⟩ : ∃ t9, t9 = pnV (M 70) L 0 16 t4 := ⟨_, rfl⟩
    have Et5 : t5.2.2.1 ≤ L := by rw [ht5]; exact pn_E Et4
    rw [← ht5]
    refine aw_istore_n (lo' := [_, _, _, some (.int _), _]) dX10_parseClass_47 (by decide) rfl ?_
    refine aw_aload_n dX10_parseClass_48 rfl ?_
    refine aw_get fl_X10_258 dX10_parseClass_49 ev_63 (l_63 hn) rfl ?_
    refine aw_if_ne 64 dX10_parseClass_52 (by decide) (fun c52 => ?_) (fun c52 => ?_)
    · refine aw_vret rfl dX10_parseClass_64 (ble' rfl) (ble' rfl) ?_
      have f2 : t2 = pc2 (M 70) L M t := by rw [ht2, ht1]; rfl
      have f3 : t3 = pc3 (M 70) L M t := by rw [ht3, f2]; rfl
      have f4 : t4 = pc4 (M 70) L M t := by rw [ht4, f3, f2]; rfl
      have f5 : t5 = pc5 (M 70) L M t := by rw [ht5, f4]; rfl
      exact pd_v (by rw [pcV, if_neg (by rw [← f5]; exact c52), ← f5])
    · refine aw_aload_n dX10_parseClass_55 rfl ?_
      refine aw_iload_n dX10_parseClass_56 rfl ?_
      refine aw_iload_n dX10_parseClass_57 rfl ?_
      refine aw_iload_n dX10_parseClass_58 rfl ?_
      have hlt : kc < 4 := lt_of_nle (show (4 : Int32) = nI 4 from rfl) hc (by decide) (by omega) c8
      refine ap_callVi kv_X10_47 ko_X10_appendClass (c_X10_appendClass (M := rv M t5) hn hc hlt _ _ _) dX10_parseClass_59 ev_63 (l_63 hn) rfl rfl rfl rfl (ble' rfl) (by decide) ?_
      rw [apC_rv]
      refine aw_istore (lo' := [_, _, _, _, some (.int _)]) dX10_parseClass_62 (by decide) rfl ?_
      refine aw_vret rfl dX10_parseClass_64 (ble' rfl) (ble' rfl) ?_
      have f2 : t2 = pc2 (M 70) L M t := by rw [ht2, ht1]; rfl
      have f3 : t3 = pc3 (M 70) L M t := by rw [ht3, f2]; rfl
      have f4 : t4 = pc4 (M 70) L M t := by rw [ht4, f3, f2]; rfl
      have f5 : t5 = pc5 (M 70) L M t := by rw [ht5, f4]; rfl
      exact pd_v (by rw [pcV, if_pos (by rw [← f5]; exact c52), ← f5, ← f4, ← f3, ← f2, cl_of hc (by omega)])

set_option maxRecDepth 100000 in
set_option maxHeartbeats 4000000 in
theorem c_X10_parseSeason {G : AG} {M : Nat → Nat → Int32} {n : Nat} (hn : 72 ≤ n) {L : Nat} (hl : M 63 10 = nI L) (hL : L ≤ 500) (hx : ∀ i, i < 500 → ¬ M 70 i = -1) {t : RV} (hE : t.2.2.1 ≤ L) {kz : Nat} (hz : M 64 3 = nI kz) (hz4 : kz ≤ 12) : AMet tX10_parseSeason yX10_parseSeason [Cond.code yX10_parseSeason cX10_parseSeason 7 none] [.ref 63] (wld (gv G t) (rv M t)) n (PD (.inl none) (wld (gv G (pzV L M t).2) (rv (pzV L M t).1 (pzV L M t).2)) n) := by
  refine am_of (lo := [_, _, _, _, _, _, _]) (by decide) rfl (fun q => by cases q) rfl rfl rfl ?_
  refine aw_aload_n dX10_parseSeason_0 rfl ?_
  refine aw_aload_n dX10_parseSeason_1 rfl ?_
  refine aw_get fl_X10_7 dX10_parseSeason_2 ev_63 (l_63 hn) rfl ?_
  refine aw_iconst (v := 3) dX10_parseSeason_5 (by decide) ?_
  refine aw_ialdk dX10_parseSeason_6 ev_64 (l_64 hn) (show (3 : Int32) = nI 3 from rfl) (by decide) rfl ?_
  refine aw_bipush (v := 12) dX10_parseSeason_7 (by decide) ?_
  refine aw_icmp_ge 16 dX10_parseSeason_9 (by decide) (fun c9 => ?_) (fun c9 => ?_)
  · have n9 := Int32.not_lt.mpr c9
    refine aw_iconst (v := 0) dX10_parseSeason_16 (by decide) ?_
    refine aw_iconst (v := 3) dX10_parseSeason_17 (by decide) ?_
    refine ap_callVv kv_X10_264 ko_X10_require (c_X10_require (t := t) hn _ 3) dX10_parseSeason_18 ev_63 (l_63 hn) rfl rfl rfl rfl (ble' rfl) (by decide) ?_
    rw [rq_0 (P := M 64 3 < 12) n9]
    obtain ⟨t1, ht1⟩ : ∃ t9, t9 = rqV (M 64 3 < 12) 3 t := ⟨_, rfl⟩
    rw [← ht1]
    refine aw_aload_n dX10_parseSeason_21 rfl ?_
    refine ap_callVv kv_X10_268 ko_X10_advanceToken (c_X10_advanceToken hn hl hL hx (t := t1) (by rw [ht1]; exact rq_E hE)) dX10_parseSeason_22 ev_63 (l_63 hn) rfl rfl rfl rfl (ble' rfl) (by decide) ?_
    obtain ⟨t2, ht2⟩ : ∃ t9, t9 = advV (M 70) L t1 := ⟨_, rfl⟩
    have Et2 : t2.2.2.1 ≤ L := by rw [ht2]; exact adv_E (by rw [ht1]; exact rq_E hE)
    rw [← ht2]
    refine aw_aload_n dX10_parseSeason_25 rfl ?_
    refine aw_iconst (v := 0) dX10_parseSeason_26 (by decide) ?_
    refine aw_aload_n dX10_parseSeason_27 rfl ?_
    refine aw_get fl_X10_7 dX10_parseSeason_28 ev_63 (l_63 hn) rfl ?_
    refine aw_iconst (v := 1) dX10_parseSeason_31 (by decide) ?_
    refine aw_ialdk dX10_parseSeason_32 ev_64 (l_64 hn) (show (1 : Int32) = nI 1 from rfl) (by decide) rfl ?_
    refine aw_iconst (v := 1) dX10_parseSeason_33 (by decide) ?_
    refine aw_isub dX10_parseSeason_34 ?_
    refine ap_callVi kv_X10_271 ko_X10_parseNumber (c_X10_parseNumber hn hl hL hx (t := t2) Et2 _ _) dX10_parseSeason_35 ev_63 (l_63 hn) rfl rfl rfl rfl (ble' rfl) (by decide) ?_
    obtain ⟨t3, ht3⟩ : ∃ t9, t9 = pnV (M 70) L 0 (M 64 1 - 1) t2 := ⟨_, rfl⟩
    have Et3 : t3.2.2.1 ≤ L := by rw [ht3]; exact pn_E Et2
    rw [← ht3]
    refine aw_istore_n (lo' := [_, some (.int _), _, _, _, _, _]) dX10_parseSeason_38 (by decide) rfl ?_
    refine aw_aload_n dX10_parseSeason_39 rfl ?_
    refine aw_iconst (v := 0) dX10_parseSeason_40 (by decide) ?_
    refine aw_sipush (v := 999) dX10_parseSeason_41 (by decide) ?_
    refine ap_callVi kv_X10_271 ko_X10_parseNumber (c_X10_parseNumber hn hl hL hx (t := t3) Et3 _ _) dX10_parseSeason_44 ev_63 (l_63 hn) rfl rfl rfl rfl (ble' rfl) (by decide) ?_
    obtain ⟨t4, ht4⟩ : ∃ t9, t9 = pnV (M 70) L 0 999 t3 := ⟨_, rfl⟩
    have Et4 : t4.2.2.1 ≤ L := by rw [ht4]; exact pn_E Et3
    rw [← ht4]
    refine aw_istore_n (lo' := [_, _, some (.int _), _, _, _, _]) dX10_parseSeason_47 (by decide) rfl ?_
    refine aw_aload_n dX10_parseSeason_48 rfl ?_
    refine aw_iload_n dX10_parseSeason_49 rfl ?_
    refine aw_sipush (v := 999) dX10_parseSeason_50 (by decide) ?_
    refine ap_callVi kv_X10_271 ko_X10_parseNumber (c_X10_parseNumber hn hl hL hx (t := t4) Et4 _ _) dX10_parseSeason_53 ev_63 (l_63 hn) rfl rfl rfl rfl (ble' rfl) (by decide) ?_
    obtain ⟨t5, ht5⟩ : ∃ t9, t9 = pnV (M 70) L t3.2.2.2.2.1 999 t4 := ⟨_, rfl⟩
    have Et5 : t5.2.2.1 ≤ L := by rw [ht5]; exact pn_E Et4
    rw [← ht5]
    refine aw_istore_n (lo' := [_, _, _, some (.int _), _, _, _]) dX10_parseSeason_56 (by decide) rfl ?_
    refine aw_aload_n dX10_parseSeason_57 rfl ?_
    refine aw_iconst (v := 1) dX10_parseSeason_58 (by decide) ?_
    refine aw_bipush (v := 14) dX10_parseSeason_59 (by decide) ?_
    refine ap_callVi kv_X10_271 ko_X10_parseNumber (c_X10_parseNumber hn hl hL hx (t := t5) Et5 _ _) dX10_parseSeason_61 ev_63 (l_63 hn) rfl rfl rfl rfl (ble' rfl) (by decide) ?_
    obtain ⟨t6, ht6⟩ : ∃ t9, t9 = pnV (M 70) L 1 14 t5 := ⟨_, rfl⟩
    have Et6 : t6.2.2.1 ≤ L := by rw [ht6]; exact pn_E Et5
    rw [← ht6]
    refine aw_istore (lo' := [_, _, _, _, some (.int _), _, _]) dX10_parseSeason_64 (by decide) rfl ?_
    refine aw_aload_n dX10_parseSeason_66 rfl ?_
    refine aw_iconst (v := 0) dX10_parseSeason_67 (by decide) ?_
    refine aw_sipush (v := 9999) dX10_parseSeason_68 (by decide) ?_
    refine ap_callVi kv_X10_271 ko_X10_parseNumber (c_X10_parseNumber hn hl hL hx (t := t6) Et6 _ _) dX10_parseSeason_71 ev_63 (l_63 hn) rfl rfl rfl rfl (ble' rfl) (by decide) ?_
    obtain ⟨t7, ht7⟩ : ∃ t9, t9 = pnV (M 70) L 0 9999 t6 := ⟨_, rfl⟩
    have Et7 : t7.2.2.1 ≤ L := by rw [ht7]; exact pn_E Et6
    rw [← ht7]
    refine aw_istore (lo' := [_, _, _, _, _, some (.int _), _]) dX10_parseSeason_74 (by decide) rfl ?_
    refine aw_aload_n dX10_parseSeason_76 rfl ?_
    refine aw_get fl_X10_258 dX10_parseSeason_77 ev_63 (l_63 hn) rfl ?_
    refine aw_if_ne 96 dX10_parseSeason_80 (by decide) (fun _ => ?_) (fun q => absurd (rq_ec (P := M 64 3 < 12) (c := 3) (t := t) (by decide) (by rw [← ht1, ← adv_ec (x := M 70) (L := L), ← ht2]; exact (pn_ec (by rw [← ht3]; exact (pn_ec (by rw [← ht4]; exact (pn_ec (by rw [← ht5]; exact (pn_ec (by rw [← ht6]; exact (pn_ec (by rw [← ht7]; exact q)).2)).2)).2)).2)).2)).1 n9)
    refine aw_vret rfl dX10_parseSeason_96 (ble' rfl) (ble' rfl) ?_
    have c80 : ¬ t7.2.2.2.2.2.1 = 0 := fun q => absurd (rq_ec (P := M 64 3 < 12) (c := 3) (t := t) (by decide) (by rw [← ht1, ← adv_ec (x := M 70) (L := L), ← ht2]; exact (pn_ec (by rw [← ht3]; exact (pn_ec (by rw [← ht4]; exact (pn_ec (by rw [← ht5]; exact (pn_ec (by rw [← ht6]; exact (pn_ec (by rw [← ht7]; exact q)).2)).2)).2)).2)).2)).1 n9
    have f2 : t2 = pz2 (M 70) L M t := by rw [ht2, ht1]; rfl
    have f3 : t3 = pz3 (M 70) L M t := by rw [ht3, f2]; rfl
    have f4 : t4 = pz4 (M 70) L M t := by rw [ht4, f3]; rfl
    have f5 : t5 = pz5 (M 70) L M t := by rw [ht5, f4, f3]; rfl
    have f6 : t6 = pz6 (M 70) L M t := by rw [ht6, f5]; rfl
    have f7 : t7 = pz7 (M 70) L M t := by rw [ht7, f6]; rfl
    exact pd_v (by rw [pzV, if_neg (by rw [← f7]; exact c80), ← f7])
  · have n9 := Int32.not_le.mp c9
    refine aw_iconst (v := 1) dX10_parseSeason_12 (by decide) ?_
    refine aw_goto 17 dX10_parseSeason_13 (by decide) ?_
    refine aw_iconst (v := 3) dX10_parseSeason_17 (by decide) ?_
    refine ap_callVv kv_X10_264 ko_X10_require (c_X10_require (t := t) hn _ 3) dX10_parseSeason_18 ev_63 (l_63 hn) rfl rfl rfl rfl (ble' rfl) (by decide) ?_
    rw [rq_1 (P := M 64 3 < 12) n9]
    obtain ⟨t1, ht1⟩ : ∃ t9, t9 = rqV (M 64 3 < 12) 3 t := ⟨_, rfl⟩
    rw [← ht1]
    refine aw_aload_n dX10_parseSeason_21 rfl ?_
    refine ap_callVv kv_X10_268 ko_X10_advanceToken (c_X10_advanceToken hn hl hL hx (t := t1) (by rw [ht1]; exact rq_E hE)) dX10_parseSeason_22 ev_63 (l_63 hn) rfl rfl rfl rfl (ble' rfl) (by decide) ?_
    obtain ⟨t2, ht2⟩ : ∃ t9, t9 = advV (M 70) L t1 := ⟨_, rfl⟩
    have Et2 : t2.2.2.1 ≤ L := by rw [ht2]; exact adv_E (by rw [ht1]; exact rq_E hE)
    rw [← ht2]
    refine aw_aload_n dX10_parseSeason_25 rfl ?_
    refine aw_iconst (v := 0) dX10_parseSeason_26 (by decide) ?_
    refine aw_aload_n dX10_parseSeason_27 rfl ?_
    refine aw_get fl_X10_7 dX10_parseSeason_28 ev_63 (l_63 hn) rfl ?_
    refine aw_iconst (v := 1) dX10_parseSeason_31 (by decide) ?_
    refine aw_ialdk dX10_parseSeason_32 ev_64 (l_64 hn) (show (1 : Int32) = nI 1 from rfl) (by decide) rfl ?_
    refine aw_iconst (v := 1) dX10_parseSeason_33 (by decide) ?_
    refine aw_isub dX10_parseSeason_34 ?_
    refine ap_callVi kv_X10_271 ko_X10_parseNumber (c_X10_parseNumber hn hl hL hx (t := t2) Et2 _ _) dX10_parseSeason_35 ev_63 (l_63 hn) rfl rfl rfl rfl (ble' rfl) (by decide) ?_
    obtain ⟨t3, ht3⟩ : ∃ t9, t9 = pnV (M 70) L 0 (M 64 1 - 1) t2 := ⟨_, rfl⟩
    have Et3 : t3.2.2.1 ≤ L := by rw [ht3]; exact pn_E Et2
    rw [← ht3]
    refine aw_istore_n (lo' := [_, some (.int _), _, _, _, _, _]) dX10_parseSeason_38 (by decide) rfl ?_
    refine aw_aload_n dX10_parseSeason_39 rfl ?_
    refine aw_iconst (v := 0) dX10_parseSeason_40 (by decide) ?_
    refine aw_sipush (v := 999) dX10_parseSeason_41 (by decide) ?_
    refine ap_callVi kv_X10_271 ko_X10_parseNumber (c_X10_parseNumber hn hl hL hx (t := t3) Et3 _ _) dX10_parseSeason_44 ev_63 (l_63 hn) rfl rfl rfl rfl (ble' rfl) (by decide) ?_
    obtain ⟨t4, ht4⟩ : ∃ t9, t9 = pnV (M 70) L 0 999 t3 := ⟨_, rfl⟩
    have Et4 : t4.2.2.1 ≤ L := by rw [ht4]; exact pn_E Et3
    rw [← ht4]
    refine aw_istore_n (lo' := [_, _, some (.int _), _, _, _, _]) dX10_parseSeason_47 (by decide) rfl ?_
    refine aw_aload_n dX10_parseSeason_48 rfl ?_
    refine aw_iload_n dX10_parseSeason_49 rfl ?_
    refine aw_sipush (v := 999) dX10_parseSeason_50 (by decide) ?_
    refine ap_callVi kv_X10_271 ko_X10_parseNumber (c_X10_parseNumber hn hl hL hx (t := t4) Et4 _ _) dX10_parseSeason_53 ev_63 (l_63 hn) rfl rfl rfl rfl (ble' rfl) (by decide) ?_
    obtain ⟨t5, ht5⟩ : ∃ t9, t9 = pnV (M 70) L t3.2.2.2.2.1 999 t4 := ⟨_, rfl⟩
    have Et5 : t5.2.2.1 ≤ L := by rw [ht5]; exact pn_E Et4
    rw [← ht5]
    refine aw_istore_n (lo' := [_, _, _, some (.int _), _, _, _]) dX10_parseSeason_56 (by decide) rfl ?_
    refine aw_aload_n dX10_parseSeason_57 rfl ?_
    refine aw_iconst (v := 1) dX10_parseSeason_58 (by decide) ?_
    refine aw_bipush (v := 14) dX10_parseSeason_59 (by decide) ?_
    refine ap_callVi kv_X10_271 ko_X10_parseNumber (c_X10_parseNumber hn hl hL hx (t := t5) Et5 _ _) dX10_parseSeason_61 ev_63 (l_63 hn) rfl rfl rfl rfl (ble' rfl) (by decide) ?_
    obtain ⟨t6, ht6⟩ : ∃ t9, t9 = pnV (M 70) L 1 14 t5 := ⟨_, rfl⟩
    have Et6 : t6.2.2.1 ≤ L := by rw [ht6]; exact pn_E Et5
    rw [← ht6]
    refine aw_istore (lo' := [_, _, _, _, some (.int _), _, _]) dX10_parseSeason_64 (by decide) rfl ?_
    refine aw_aload_n dX10_parseSeason_66 rfl ?_
    refine aw_iconst (v := 0) dX10_parseSeason_67 (by decide) ?_
    refine aw_sipush (v := 9999) dX10_parseSeason_68 (by decide) ?_
    refine ap_callVi kv_X10_271 ko_X10_parseNumber (c_X10_parseNumber hn hl hL hx (t := t6) Et6 _ _) dX10_parseSeason_71 ev_63 (l_63 hn) rfl rfl rfl rfl (ble' rfl) (by decide) ?_
    obtain ⟨t7, ht7⟩ : ∃ t9, t9 = pnV (M 70) L 0 9999 t6 := ⟨_, rfl⟩
    have Et7 : t7.2.2.1 ≤ L := by rw [ht7]; exact pn_E Et6
    rw [← ht7]
    refine aw_istore (lo' := [_, _, _, _, _, some (.int _), _]) dX10_parseSeason_74 (by decide) rfl ?_
    refine aw_aload_n dX10_parseSeason_76 rfl ?_
    refine aw_get fl_X10_258 dX10_parseSeason_77 ev_63 (l_63 hn) rfl ?_
    refine aw_if_ne 96 dX10_parseSeason_80 (by decide) (fun c80 => ?_) (fun c80 => ?_)
    · refine aw_vret rfl dX10_parseSeason_96 (ble' rfl) (ble' rfl) ?_
      have f2 : t2 = pz2 (M 70) L M t := by rw [ht2, ht1]; rfl
      have f3 : t3 = pz3 (M 70) L M t := by rw [ht3, f2]; rfl
      have f4 : t4 = pz4 (M 70) L M t := by rw [ht4, f3]; rfl
      have f5 : t5 = pz5 (M 70) L M t := by rw [ht5, f4, f3]; rfl
      have f6 : t6 = pz6 (M 70) L M t := by rw [ht6, f5]; rfl
      have f7 : t7 = pz7 (M 70) L M t := by rw [ht7, f6]; rfl
      exact pd_v (by rw [pzV, if_neg (by rw [← f7]; exact c80), ← f7])
    · refine aw_aload_n dX10_parseSeason_83 rfl ?_
      refine aw_iload_n dX10_parseSeason_84 rfl ?_
      refine aw_iload_n dX10_parseSeason_85 rfl ?_
      refine aw_iload_n dX10_parseSeason_86 rfl ?_
      refine aw_iload dX10_parseSeason_87 rfl ?_
      refine aw_iload dX10_parseSeason_89 rfl ?_
      have hlt : kz < 12 := lt_of_nle (show (12 : Int32) = nI 12 from rfl) hz (by decide) (by omega) c9
      refine ap_callVi kv_X10_61 ko_X10_appendSeason (c_X10_appendSeason (M := rv M t7) hn hz hlt _ _ _ _ _) dX10_parseSeason_91 ev_63 (l_63 hn) rfl rfl rfl rfl (ble' rfl) (by decide) ?_
      rw [apZ_rv]
      refine aw_istore (lo' := [_, _, _, _, _, _, some (.int _)]) dX10_parseSeason_94 (by decide) rfl ?_
      refine aw_vret rfl dX10_parseSeason_96 (ble' rfl) (ble' rfl) ?_
      have f2 : t2 = pz2 (M 70) L M t := by rw [ht2, ht1]; rfl
      have f3 : t3 = pz3 (M 70) L M t := by rw [ht3, f2]; rfl
      have f4 : t4 = pz4 (M 70) L M t := by rw [ht4, f3]; rfl
      have f5 : t5 = pz5 (M 70) L M t := by rw [ht5, f4, f3]; rfl
      have f6 : t6 = pz6 (M 70) L M t := by rw [ht6, f5]; rfl
      have f7 : t7 = pz7 (M 70) L M t := by rw [ht7, f6]; rfl
      exact pd_v (by rw [pzV, if_pos (by rw [← f7]; exact c80), ← f7, ← f6, ← f5, ← f4, ← f3, ← f2, cl_of hz (by omega)])
