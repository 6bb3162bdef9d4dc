abbrev LO (i : Nat) (k b : Option Value) : List (Option Value) := [some (.ref 900030), some (.ref 0), some (.ref 63), some (.ref 71), some (.int (nI i)), k, b]
section Lgen
variable {b L : Nat} {xs : Nat → Int32} {pc : Nat} {lo lo' : List (Option Value)} {st sk as : List Value} {h : Nat → AE} {n ce sl : Nat}
theorem aw_lof {T : ATy} {Q : AQ} {CX : AC} (hl : ∀ (i : Nat) (v : Value), lo'[i]? = some (some v) → lo[i]? = some (some v)) (kk : AW T Q CX pc lo' st h n ce sl) : AW T Q CX pc lo st h n ce sl := by
  intro p l e1 s m args below meth c H locs ls ad kc D z A hF hC hD
  obtain ⟨d1, d2, d3, d4, d5, d6, d7, d8, d9⟩ := hD
  exact kk p l e1 s m args below meth c H locs ls ad kc D z A hF hC ⟨d1, d2, d3, d4, d5, d6, d7, d8, fun i v q => d9 i v (hl i v q)⟩
theorem lo_none {i : Nat} {k c : Option Value} (j : Nat) (v : Value) : (LO i none none)[j]? = some (some v) → (LO i k c)[j]? = some (some v) := by
  intro q
  match j with
  | 0 => exact q
  | 1 => exact q
  | 2 => exact q
  | 3 => exact q
  | 4 => exact q
  | 5 => cases q
  | 6 => cases q
  | j + 7 => cases q
theorem lc_LO {i : Nat} (hn : 72 ≤ n) : LC n (LO i none none) := by
  intro v hv
  simp only [LO, List.mem_cons, List.not_mem_nil, Option.some.injEq, or_false, reduceCtorEq] at hv
  rcases hv with rfl | rfl | rfl | rfl | rfl
  · exact Or.inr (by decide)
  · exact Or.inl (show 0 < n by omega)
  · exact Or.inl (show 63 < n by omega)
  · exact Or.inl (show 71 < n by omega)
  · trivial
variable {G : AG} {M M1 : Nat → Nat → Int32} {i cd cr index na : Nat} {v : Int32} {Tc : ATy} {y : MethodName} {hh : List (Nat × Nat × Nat × Nat)}
theorem lw_help {y : MethodName} (hn : 72 ≤ n) (hL : Cond.methodLink RL index y ∈ GW) (hsta : Cond.static y ∈ GW) (hK : KOW y Tc.2.1 Tc.2.2.1 Tc.2.2.2.1 hh na) (hM : AMet Tc y [Cond.codeWith y Tc.2.1 Tc.2.2.1 Tc.2.2.2.1 hh] as (wld G M) n (PLh cd v G M M1 n)) (hd : decode code pc = .ok (.invokestatic index, 3)) (d2 : decode code (pc + 3) = .ok (.istore 5, 2)) (hst : sk = as.reverse ++ []) (hna9 : as.length = na) (hR : RmOk TL Tc ce sl)
    (kk : ∀ w M', (cd = 0 → w = v.toInt64) → (cd = 0 → SEq M' M1) → (¬ cd = 0 → SEq M' M) → AW TL QL (CL b L xs) (pc + 3 + 2) (LO i (some (.int (nI cd))) none) [] (wld (G.1, G.2.1, w) M') n (ce + Tc.2.2.2.2.1.cells) (sl + Tc.2.2.2.2.1.slots)) : AW TL QL (CL b L xs) pc (LO i none none) sk (wld G M) n ce sl := by
  refine aw_callSW (T := TL) hL hsta hK hM hd hst hna9 (Nat.zero_le _) hR (lc_LO hn) (fun v q => by cases q) (fun E h' n' q => by cases q.2.1) ?_
  intro v1 h1 n1 hp _ _
  obtain ⟨rfl, e2, w, M', rfl, q1, q2⟩ := hp
  cases e2
  refine aw_istore (T := TL) d2 (by decide) rfl ?_
  exact kk w M' (fun q => (q1 q).1) (fun q => (q1 q).2) q2
theorem lw_helpv {y : MethodName} (hn : 72 ≤ n) (hL : Cond.methodLink RL index y ∈ GW) (hsta : Cond.static y ∈ GW) (hK : KOW y Tc.2.1 Tc.2.2.1 Tc.2.2.2.1 hh na) (hM : AMet Tc y [Cond.codeWith y Tc.2.1 Tc.2.2.1 Tc.2.2.2.1 hh] as (wld G M) n (PLv cd G M M1 n)) (hd : decode code pc = .ok (.invokestatic index, 3)) (d2 : decode code (pc + 3) = .ok (.istore 5, 2)) (hst : sk = as.reverse ++ []) (hna9 : as.length = na) (hR : RmOk TL Tc ce sl)
    (kk : ∀ M', (cd = 0 → SEq M' M1) → (¬ cd = 0 → SEq M' M) → AW TL QL (CL b L xs) (pc + 3 + 2) (LO i (some (.int (nI cd))) none) [] (wld G M') n (ce + Tc.2.2.2.2.1.cells) (sl + Tc.2.2.2.2.1.slots)) : AW TL QL (CL b L xs) pc (LO i none none) sk (wld G M) n ce sl := by
  refine aw_callSW (T := TL) hL hsta hK hM hd hst hna9 (Nat.zero_le _) hR (lc_LO hn) (fun v q => by cases q) (fun E h' n' q => by cases q.2.1) ?_
  intro v1 h1 n1 hp _ _
  obtain ⟨rfl, e2, M', rfl, q1, q2⟩ := hp
  cases e2
  refine aw_istore (T := TL) d2 (by decide) rfl ?_
  exact kk M' q1 q2
theorem lw_helps {y : MethodName} {x : Int32} (hn : 72 ≤ n) (hL : Cond.methodLink RL index y ∈ GW) (hsta : Cond.static y ∈ GW) (hK : KOW y Tc.2.1 Tc.2.2.1 Tc.2.2.2.1 hh na) (hM : AMet Tc y [Cond.codeWith y Tc.2.1 Tc.2.2.1 Tc.2.2.2.1 hh] as (wld G M) n (PLs G M x n)) (hd : decode code pc = .ok (.invokestatic index, 3)) (d2 : decode code (pc + 3) = .ok (.istore 5, 2)) (hst : sk = as.reverse ++ []) (hna9 : as.length = na) (hR : RmOk TL Tc ce sl)
    (kk : ∀ h' n', PLs G M x n (.inl (some (.int (nI (cd_save x))))) h' n' → AW TL QL (CL b L xs) (pc + 3 + 2) (LO i (some (.int (nI (cd_save x)))) none) [] h' n' (ce + Tc.2.2.2.2.1.cells) (sl + Tc.2.2.2.2.1.slots)) : AW TL QL (CL b L xs) pc (LO i none none) sk (wld G M) n ce sl := by
  refine aw_callSW (T := TL) hL hsta hK hM hd hst hna9 (Nat.zero_le _) hR (lc_LO hn) (fun v q => by cases q) (fun E h' n' q => by cases q.1) ?_
  intro v1 h1 n1 hp _ _
  have e2 := hp.1
  cases e2
  refine aw_istore (T := TL) d2 (by decide) rfl ?_
  exact kk h1 n1 hp
theorem nI_s {k : Nat} (h : k < 100) : nI k = 0 ↔ k = 0 := nI_z (by omega)
/-- the reference's call and what is compared behind it: a call with an answer -/
theorem lw_ref (hn : 72 ≤ n) (hce : ce ≤ 500000) (hsl : sl ≤ 7000000) (h0 : Tc.2.2.2.2.1.cells = 0) (h1 : Tc.2.2.2.2.1.slots = 0) (hL : KV RL index y) (hK : KO y Tc.2.1 Tc.2.2.1 Tc.2.2.2.1 na) (hM : AMet Tc y [Cond.code y Tc.2.1 Tc.2.2.1 Tc.2.2.2.1] (.ref 63 :: as) (wld G M) n (PR cr v G M M1 n)) (hy : RX10 = y.cls) (hst : sk = as.reverse ++ .ref 63 :: []) (hna9 : as.length = na) (hf : Nat.ble (Tc.2.2.2.2.1.frames + 1) 12 = true) (hlc : Nat.ble (8 + (Tc.2.2.1 + 11) + Tc.2.2.2.2.1.locals) 442 = true)
    (hc : cd = cr) (h9 : cd < 100) (hv : cr = 0 → G.2.2 = v.toInt64) {o1 o2 : Int} (ht : (pc : Int) + 18 + o1 = ((pc + 33 : Nat) : Int)) (htg : (pc : Int) + 33 + o2 = 3404)
    (d0 : decode code pc = .ok (.invokevirtual index, 3)) (d3 : decode code (pc + 3) = .ok (.istore 6, 2)) (d5 : decode code (pc + 3 + 2) = .ok (.aload_n 2, 1)) (d6 : decode code (pc + 3 + 2 + 1) = .ok (.invokevirtual 174, 3)) (d9 : decode code (pc + 3 + 2 + 1 + 3) = .ok (.iload 5, 2)) (d11 : decode code (pc + 3 + 2 + 1 + 3 + 2) = .ok (.if_icmp .eq 5, 3)) (d16 : decode code (pc + 16) = .ok (.iload 5, 2)) (d18 : decode code (pc + 16 + 2) = .ok (.ifCond .ne o1, 3)) (d21 : decode code (pc + 16 + 2 + 3) = .ok (.aload_n 3, 1)) (d22 : decode code (pc + 16 + 2 + 3 + 1) = .ok (.iconst 0, 1)) (d23 : decode code (pc + 16 + 2 + 3 + 1 + 1) = .ok (.laload, 1)) (d24 : decode code (pc + 16 + 2 + 3 + 1 + 1 + 1) = .ok (.iload 6, 2)) (d26 : decode code (pc + 16 + 2 + 3 + 1 + 1 + 1 + 2) = .ok (.i2l, 1)) (d27 : decode code (pc + 16 + 2 + 3 + 1 + 1 + 1 + 2 + 1) = .ok (.lcmp, 1)) (d28 : decode code (pc + 16 + 2 + 3 + 1 + 1 + 1 + 2 + 1 + 1) = .ok (.ifCond .eq 5, 3)) (d33 : decode code (pc + 33) = .ok (.goto o2, 3))
    (kk : ∀ M2, RS (if cr = 0 then M1 else M) M2 → AW TL QL (CL b L xs) 3404 (LO i none none) [] (wld G M2) n ce sl) : AW TL QL (CL b L xs) pc (LO i (some (.int (nI cd))) none) sk (wld G M) n ce sl := by
  refine ap_callR (T := TL) hL hK hM d0 e_63 (l_63 hn) rfl hy hst hna9 (Nat.zero_le _) ⟨Nat.le_of_ble_eq_true hf, Nat.le_of_ble_eq_true hlc, ?_, ?_⟩ ?_
  · rw [h0]; show ce + 0 ≤ 601024; omega
  · rw [h1]; show sl + 0 ≤ 7293034; omega
  intro M2 hr h4
  rw [h0, h1]
  have kk := aw_goto (T := TL) (pc := pc + 33) 3404 d33 (by omega) (aw_lof (lo := LO i (some (.int (nI cd))) (some (.int (if cr = 0 then v else 0)))) lo_none (kk M2 hr))
  refine aw_istore (T := TL) d3 (by decide) rfl ?_
  refine aw_aload_n (T := TL) d5 rfl ?_
  refine ap_callVi (T := TL) kv_L_174 ko_X10_thrown (c_X10_thrown hn) d6 e_63 (l_63 hn) rfl rfl rfl rfl (Nat.zero_le _) ⟨by decide, by decide, by show ce + 0 + 0 ≤ 601024; omega, by show sl + 0 + 0 ≤ 7293034; omega⟩ ?_
  refine aw_iload (T := TL) d9 rfl ?_
  refine aw_icmp_eq (T := TL) (pc + 16) d11 (by omega) (fun _ => ?_) (fun q => absurd (h4.trans (by rw [hc])) q)
  refine aw_iload (T := TL) d16 rfl ?_
  refine aw_if_ne (T := TL) (pc + 33) d18 (by omega) (fun _ => kk) (fun q => ?_)
  have hz : cr = 0 := by rw [← hc]; exact (nI_s h9).mp q
  refine aw_aload_n (T := TL) d21 rfl ?_
  refine aw_iconst (T := TL) d22 rfl ?_
  refine aw_lald (T := TL) d23 e_71 (l_71 hn) (in_of (show (0 : Int32) = nI 0 from rfl) (by decide) (by decide)) ?_
  refine aw_iload (T := TL) d24 rfl ?_
  refine aw_i2l (T := TL) d26 ?_
  refine aw_lcmp (T := TL) d27 ?_
  refine aw_if_eq (T := TL) (pc + 33) d28 (by omega) (fun _ => kk) (fun q => absurd (lg_z.mpr ?_) q)
  rw [if_pos hz]
  exact hv hz
/-- a call without an answer -/
theorem lw_refv (hn : 72 ≤ n) (hce : ce ≤ 500000) (hsl : sl ≤ 7000000) (h0 : Tc.2.2.2.2.1.cells = 0) (h1 : Tc.2.2.2.2.1.slots = 0) (hL : KV RL index y) (hK : KO y Tc.2.1 Tc.2.2.1 Tc.2.2.2.1 na) (hM : AMet Tc y [Cond.code y Tc.2.1 Tc.2.2.1 Tc.2.2.2.1] (.ref 63 :: as) (wld G M) n (PRv cr G M M1 n)) (hy : RX10 = y.cls) (hst : sk = as.reverse ++ .ref 63 :: []) (hna9 : as.length = na) (hf : Nat.ble (Tc.2.2.2.2.1.frames + 1) 12 = true) (hlc : Nat.ble (8 + (Tc.2.2.1 + 11) + Tc.2.2.2.2.1.locals) 442 = true)
    (hc : cd = cr) {o2 : Int} (htg : (pc : Int) + 14 + o2 = 3404)
    (d0 : decode code pc = .ok (.invokevirtual index, 3)) (d5 : decode code (pc + 3) = .ok (.aload_n 2, 1)) (d6 : decode code (pc + 3 + 1) = .ok (.invokevirtual 174, 3)) (d9 : decode code (pc + 3 + 1 + 3) = .ok (.iload 5, 2)) (d11 : decode code (pc + 3 + 1 + 3 + 2) = .ok (.if_icmp .eq 5, 3)) (d14 : decode code (pc + 14) = .ok (.goto o2, 3))
    (kk : ∀ M2, RS (if cr = 0 then M1 else M) M2 → AW TL QL (CL b L xs) 3404 (LO i none none) [] (wld G M2) n ce sl) : AW TL QL (CL b L xs) pc (LO i (some (.int (nI cd))) none) sk (wld G M) n ce sl := by
  refine aw_callV (T := TL) hL hK hM d0 e_63 (l_63 hn) rfl hy hst hna9 (Nat.zero_le _) ⟨Nat.le_of_ble_eq_true hf, Nat.le_of_ble_eq_true hlc, ?_, ?_⟩ (fun E h' n' q => by cases q.1) (fun o h' n' q => q.2.1) ?_
  · rw [h0]; show ce + 0 ≤ 601024; omega
  · rw [h1]; show sl + 0 ≤ 7293034; omega
  intro v' h' q
  obtain ⟨q1, -, M2, rfl, hr, h4⟩ := q
  cases q1
  rw [h0, h1]
  have kk := aw_goto (T := TL) (pc := pc + 14) 3404 d14 (by omega) (aw_lof (lo := LO i (some (.int (nI cd))) none) lo_none (kk M2 hr))
  refine aw_aload_n (T := TL) d5 rfl ?_
  refine ap_callVi (T := TL) kv_L_174 ko_X10_thrown (c_X10_thrown hn) d6 e_63 (l_63 hn) rfl rfl rfl rfl (Nat.zero_le _) ⟨by decide, by decide, by show ce + 0 + 0 ≤ 601024; omega, by show sl + 0 + 0 ≤ 7293034; omega⟩ ?_
  refine aw_iload (T := TL) d9 rfl ?_
  exact aw_icmp_eq (T := TL) (pc + 14) d11 (by omega) (fun _ => kk) (fun q => absurd (h4.trans (by rw [hc])) q)
end Lgen
/-! what the cases' ends need -/
theorem lw_hq {M M1 M' : Nat → Nat → Int32} {cd : Nat} (h0 : cd = 0 → SEq M' M1) (h1 : ¬ cd = 0 → SEq M' M) (hk : ∀ i, 63 ≤ i → i < 72 → M1 i = M i) : ∀ i, 63 ≤ i → i < 72 → M' i = M i := fun i a c => by
  by_cases q : cd = 0
  · exact (h0 q i (by unfold scr; omega)).trans (hk i a c)
  · exact h1 q i (by unfold scr; omega)
theorem rel_B2 {G : AG} {M M' : Nat → Nat → Int32} {n : Nat} (h : Rel G M M n) (hq : ∀ i, 63 ≤ i → i < 72 → M' i = M i) : Rel G M M' n :=
  rel_cg h rfl (fun _ _ _ => rfl) (fun i hi => hq i (by omega) (by omega)) (fun j _ _ _ => by rw [hq 63 (by omega) (by omega)])
theorem lw_fin {G G2 : AG} {M M' M2 M1 Mr : Nat → Nat → Int32} {n cd cr : Nat} (hRB : Rel G M M' n) (hG : G2.1 = G.1) (hc : cd = cr) (h0 : cd = 0 → SEq M' M1) (h1 : ¬ cd = 0 → SEq M' M) (hkr : ∀ i, (i < 63 ∨ 72 ≤ i) → Mr i = M' i) (hrel : cr = 0 → Rel G M1 Mr n) (hr : RS (if cr = 0 then Mr else M') M2) : Rel G2 M2 M2 n := by
  subst hc
  by_cases q : cd = 0
  · rw [if_pos q] at hr
    exact rel_cg (hrel q) hG (fun i a c => ((hr.1 i (by omega) (by omega) (by omega)).trans (hkr i c)).trans (h0 q i a)) (fun i hi => hr.1 i (by omega) (by omega) (by omega)) (fun j a c e => hr.2 j a c e)
  · rw [if_neg q] at hr
    exact rel_cg hRB hG (fun i a c => (hr.1 i (by omega) (by omega) (by omega)).trans (h1 q i a)) (fun i hi => hr.1 i (by omega) (by omega) (by omega)) (fun j a c e => hr.2 j a c e)
