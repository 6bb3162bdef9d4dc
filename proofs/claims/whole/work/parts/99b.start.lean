/-! ===== THE START ===== -/
def Ms : Nat → Nat → Int32 := fun i => if i = 62 then (fun k => if k = 8 then -1 else 0) else if i = 63 then (fun k => if k = 17 then -1 else 0) else fun _ => 0
def Gs : AG := (fun _ => none, 0, 0)
theorem rel_s : Rel Gs Ms Ms 72 := by
  refine ⟨⟨0, 0, 0, 0, 0, 0, ⟨⟨rfl, by decide, rfl, by decide, rfl, by decide, rfl, by decide, rfl, by decide, rfl, by decide⟩, ⟨rfl, by decide, rfl, by decide, rfl, by decide, rfl, by decide, rfl, by decide, rfl, by decide⟩, ⟨?_, ?_, ?_⟩, ⟨?_, ?_⟩, ⟨?_, ?_, ?_, ?_, ?_⟩, ⟨?_, ?_, ?_, ?_, ?_, ?_⟩, ⟨?_, ?_, ?_, ?_, ?_⟩⟩, ?_⟩, ⟨0, rfl, rfl, by decide, fun k _ => Or.inl ⟨0, by decide, rfl, rfl⟩⟩, ⟨rfl, rfl⟩, ⟨fun _ _ => rfl, Or.inl ⟨rfl, rfl, rfl⟩, fun k _ => Or.inl ⟨rfl, rfl⟩⟩⟩
  all_goals first
    | exact fun j hj => absurd hj (Nat.not_lt_zero j)
    | exact ⟨fun j hj => absurd hj (Nat.not_lt_zero j), fun j hj => absurd hj (Nat.not_lt_zero j), fun j k hj => absurd hj (Nat.not_lt_zero j), fun _ _ _ _ => Nat.zero_le _, fun j hj => absurd hj (Nat.not_lt_zero j)⟩
theorem wld_s9 {h : Nat → AE} (a : At_X9 h 0) : ∀ i, i < 63 → h i = wld Gs Ms i
  | 0, _ => a.1
  | 1, _ => a.2.1.1
  | 2, _ => a.2.1.2.1.1
  | 3, _ => a.2.1.2.1.2.1
  | 4, _ => a.2.1.2.1.2.2.1
  | 5, _ => a.2.1.2.1.2.2.2
  | 6, _ => a.2.1.2.2.1.1
  | 7, _ => a.2.1.2.2.1.2.1
  | 8, _ => a.2.1.2.2.1.2.2
  | 9, _ => a.2.1.2.2.2.1.1
  | 10, _ => a.2.1.2.2.2.1.2.1
  | 11, _ => a.2.1.2.2.2.1.2.2.1
  | 12, _ => a.2.1.2.2.2.1.2.2.2.1
  | 13, _ => a.2.1.2.2.2.1.2.2.2.2.1
  | 14, _ => a.2.1.2.2.2.1.2.2.2.2.2
  | 15, _ => a.2.1.2.2.2.2.1.1
  | 16, _ => a.2.1.2.2.2.2.1.2.1
  | 17, _ => a.2.1.2.2.2.2.1.2.2.1
  | 18, _ => a.2.1.2.2.2.2.1.2.2.2.1
  | 19, _ => a.2.1.2.2.2.2.1.2.2.2.2.1
  | 20, _ => a.2.1.2.2.2.2.1.2.2.2.2.2.1
  | 21, _ => a.2.1.2.2.2.2.1.2.2.2.2.2.2
  | 22, _ => a.2.1.2.2.2.2.2.1
  | 23, _ => a.2.1.2.2.2.2.2.2.1
  | 24, _ => a.2.1.2.2.2.2.2.2.2.1
  | 25, _ => a.2.1.2.2.2.2.2.2.2.2.1
  | 26, _ => a.2.1.2.2.2.2.2.2.2.2.2.1
  | 27, _ => a.2.1.2.2.2.2.2.2.2.2.2.2
  | 28, _ => a.2.2.1.1
  | 29, _ => a.2.2.1.2.1.1
  | 30, _ => a.2.2.1.2.1.2.1
  | 31, _ => a.2.2.1.2.1.2.2.1
  | 32, _ => a.2.2.1.2.1.2.2.2
  | 33, _ => a.2.2.1.2.2.1.1
  | 34, _ => a.2.2.1.2.2.1.2.1
  | 35, _ => a.2.2.1.2.2.1.2.2
  | 36, _ => a.2.2.1.2.2.2.1.1
  | 37, _ => a.2.2.1.2.2.2.1.2.1
  | 38, _ => a.2.2.1.2.2.2.1.2.2.1
  | 39, _ => a.2.2.1.2.2.2.1.2.2.2.1
  | 40, _ => a.2.2.1.2.2.2.1.2.2.2.2.1
  | 41, _ => a.2.2.1.2.2.2.1.2.2.2.2.2
  | 42, _ => a.2.2.1.2.2.2.2.1.1
  | 43, _ => a.2.2.1.2.2.2.2.1.2.1
  | 44, _ => a.2.2.1.2.2.2.2.1.2.2.1
  | 45, _ => a.2.2.1.2.2.2.2.1.2.2.2.1
  | 46, _ => a.2.2.1.2.2.2.2.1.2.2.2.2.1
  | 47, _ => a.2.2.1.2.2.2.2.1.2.2.2.2.2.1
  | 48, _ => a.2.2.1.2.2.2.2.1.2.2.2.2.2.2
  | 49, _ => a.2.2.1.2.2.2.2.2.1
  | 50, _ => a.2.2.1.2.2.2.2.2.2.1
  | 51, _ => a.2.2.1.2.2.2.2.2.2.2.1
  | 52, _ => a.2.2.1.2.2.2.2.2.2.2.2.1
  | 53, _ => a.2.2.1.2.2.2.2.2.2.2.2.2.1
  | 54, _ => a.2.2.1.2.2.2.2.2.2.2.2.2.2
  | 55, _ => a.2.2.2.1
  | 56, _ => a.2.2.2.2.1.1
  | 57, _ => a.2.2.2.2.1.2
  | 58, _ => a.2.2.2.2.2.1.1
  | 59, _ => a.2.2.2.2.2.1.2.1
  | 60, _ => a.2.2.2.2.2.1.2.2
  | 61, _ => a.2.2.2.2.2.2.1
  | 62, _ => a.2.2.2.2.2.2.2
  | k + 63, q => absurd q (by omega)
theorem wld_s10 {h : Nat → AE} (a : At_X10 h 63) : ∀ i, i < 8 → h (63 + i) = wld Gs Ms (63 + i)
  | 0, _ => a.1
  | 1, _ => a.2.1
  | 2, _ => a.2.2.1
  | 3, _ => a.2.2.2.1
  | 4, _ => a.2.2.2.2.1
  | 5, _ => a.2.2.2.2.2.1
  | 6, _ => a.2.2.2.2.2.2.1
  | 7, _ => a.2.2.2.2.2.2.2
  | k + 8, q => absurd q (by omega)
theorem lc_s {n : Nat} {lo : List (Option Value)} (h : LC n lo) : LC n (some (.ref 900030) :: lo) := fun v hv => by
  rcases List.mem_cons.mp hv with q | q
  · cases q; exact Or.inr (by decide)
  · exact h v q
theorem lc_7 {n : Nat} : LC n [none, none, none] := lc_n (lc_n (lc_n lc_nil))
set_option maxRecDepth 100000 in
set_option maxHeartbeats 4000000 in
theorem lw_first {b L : Nat} {xs : Nat → Int32} (hL : L ≤ 3072) {h : Nat → AE} : AW TL QL (CL b L xs) 0 [some (.ref 900030), none, none, none, none, none, none] [] h 0 0 0 := by
  have c0 : HC h 0 := fun i hi => absurd hi (Nat.not_lt_zero i)
  refine aw_new (T := TL) nw_L_8 dL_law_0 c0 (by omega) (lc_s (lc_n (lc_n (lc_n lc_7)))) sc_nil (by decide) (by decide) ?_
  obtain ⟨h1, q1⟩ : ∃ y9, y9 = hset h 0 (.inr (9, [.null, .null, .null, .null, .null, .null, .null, .int 0])) := ⟨_, rfl⟩
  have c1 : HC h1 1 := by rw [q1]; exact HC.new c0 (sc_0 (sc_0 (sc_0 (sc_0 (sc_0 (sc_0 (sc_0 (sc_i sc_nil))))))))
  have e1 : h1 0 = .inr (9, [.null, .null, .null, .null, .null, .null, .null, .int 0]) := by rw [q1]; exact hset_s
  refine aw_heq q1.symm ?_
  refine aw_dup (T := TL) dL_law_3 rfl ?_
  refine aw_callI (T := TL) ki_L_164 ko_X9_init (c_X9_init (b := 0) (by omega) e1 c1) dL_law_4 rfl rfl (ble' rfl) (by decide) (lc_s (lc_n (lc_n (lc_n lc_7)))) (sc_r (by omega) sc_nil) (fun E h' n' q => by cases q.1) (fun v h2 n' hp _ _ => ?_)
  obtain ⟨hv, rfl, c2, -, a2⟩ := hp
  cases hv
  refine aw_nq (n' := 63) (by omega) ?_
  have c2 : HC h2 63 := c2
  refine aw_astore_n (T := TL) (lo' := [some (.ref 900030), some (.ref 0), none, none, none, none, none]) dL_law_7 (by decide) rfl ?_
  refine aw_new (T := TL) nw_L_165 dL_law_8 c2 (by omega) (lc_s (lc_r (by omega) (lc_n (lc_n lc_7)))) sc_nil (by decide) (by decide) ?_
  obtain ⟨h3, q3⟩ : ∃ y9, y9 = hset h2 63 (.inr (10, [.null, .null, .null, .null, .int 0, .null, .null, .int 0, .int 0, .null, .int 0, .int 0, .int 0, .int 0, .int 0, .int 0, .int 0, .int 0, .long 0])) := ⟨_, rfl⟩
  have c3 : HC h3 64 := by rw [q3]; exact HC.new c2 (sc_0 (sc_0 (sc_0 (sc_0 (sc_i (sc_0 (sc_0 (sc_i (sc_i (sc_0 (sc_i (sc_i (sc_i (sc_i (sc_i (sc_i (sc_i (sc_i (List.forall_mem_cons.mpr ⟨trivial, sc_nil⟩)))))))))))))))))))
  have e3 : h3 63 = .inr (10, [.null, .null, .null, .null, .int 0, .null, .null, .int 0, .int 0, .null, .int 0, .int 0, .int 0, .int 0, .int 0, .int 0, .int 0, .int 0, .long 0]) := by rw [q3]; exact hset_s
  have o3 : ∀ i, i < 63 → h3 i = h2 i := fun i hi => by rw [q3]; exact hset_n (by omega)
  refine aw_heq q3.symm ?_
  refine aw_dup (T := TL) dL_law_11 rfl ?_
  refine aw_callI (T := TL) ki_L_167 ko_X10_init (c_X10_init (b := 63) (by omega) e3 c3) dL_law_12 rfl rfl (ble' rfl) (by decide) (lc_s (lc_r (by omega) (lc_n (lc_n lc_7)))) (sc_r (by omega) sc_nil) (fun E h' n' q => by cases q.1) (fun v h4 n' hp _ _ => ?_)
  obtain ⟨hv, rfl, c4, o4, a4⟩ := hp
  cases hv
  refine aw_nq (n' := 71) (by omega) ?_
  have c4 : HC h4 71 := c4
  refine aw_astore_n (T := TL) (lo' := [some (.ref 900030), some (.ref 0), some (.ref 63), none, none, none, none]) dL_law_15 (by decide) rfl ?_
  refine aw_iconst (T := TL) (v := 1) dL_law_16 (by decide) ?_
  refine awn_long (T := TL) (N := 1) (by decide) (by decide) (by decide) dL_law_17 c4 (by omega) (lc_s (lc_r (by omega) (lc_r (by omega) (lc_n lc_7)))) sc_nil (by decide) (by decide) ?_
  refine aw_astore_n (T := TL) (lo' := [some (.ref 900030), some (.ref 0), some (.ref 63), some (.ref 71), none, none, none]) dL_law_19 (by decide) rfl ?_
  refine aw_iconst (T := TL) (v := 0) dL_law_20 (by decide) ?_
  refine aw_istore (T := TL) (lo' := LO 0 none none) dL_law_21 (by decide) rfl ?_
  refine aw_hc (h' := wld Gs Ms) (fun i hi => ?_) ?_
  · by_cases q : i < 63
    · exact ((hset_n (by omega)).trans ((o4 i q).trans (o3 i q))).trans (wld_s9 a2 i q)
    · by_cases q2 : i = 71
      · subst q2; exact hset_s
      · have e := wld_s10 a4 (i - 63) (by omega)
        rw [show 63 + (i - 63) = i by omega] at e
        exact (hset_n (by omega)).trans e
  · refine AW.widen (ce' := 1000) (sl' := 100000) (by decide) (by decide) ?_
    exact lw_loop hL 513 (by omega) (by omega) rel_s (by decide) (by decide) (by decide)
/-! what holds at the entry -/
theorem s_stx : ∀ q ∈ STX, Cond.stringRef q.1 q.2.1 q.2.2 ∈ lw_tbl ∧ Cond.exactly (.string q.1 q.2.1) "java/lang/String" ∈ flatC (Jvm.Cond.and given_1 narrow_1) := by decide +kernel
theorem s_stw : ∀ q ∈ STW, Cond.stringRef q.1 q.2.1 q.2.2.1 ∈ lw_tbl ∧ Cond.exactly (.string q.1 q.2.1) "java/lang/String" ∈ flatC (Jvm.Cond.and given_1 narrow_1) := by decide +kernel
theorem s_ncl : ∀ q ∈ NCL, Cond.not (.castable q.1 q.2) ∈ flatC (Jvm.Cond.and given_1 narrow_1) := by decide +kernel
def tmS (i : Nat) : Term := .string "Campground$SetupReader" ([59, 71, 76, 81].getD i 0)
def tmM (i : Nat) : Term := .string "CampgroundModel" ([274, 283, 287, 291].getD i 0)
abbrev wFl : List Cond := flatC (Jvm.Cond.and given_1 narrow_1)
theorem s_ex : ∀ i : Nat, i < 4 → Cond.exactly (tmS i) "java/lang/String" ∈ wFl := by decide +kernel
theorem s_exm : ∀ i : Nat, i < 4 → Cond.exactly (tmM i) "java/lang/String" ∈ wFl := by decide +kernel
theorem s_eqm : ∀ i : Nat, i < 4 → Cond.eq (tmS i) (tmM i) ∈ wFl := by decide +kernel
theorem s_co : ∀ i : Nat, i < 4 → Cond.eq (.field (tmS i) "java/lang/String" "coder" "B") (.int 0) ∈ wFl := by decide +kernel
theorem s_ar : ∀ i : Nat, i < 4 → Cond.arrayOf (.field (tmS i) "java/lang/String" "value" "[B") .byte ∈ wFl := by decide +kernel
theorem s_le : ∀ i : Nat, i < 4 → Cond.eq (.length (.field (tmS i) "java/lang/String" "value" "[B")) (.int (Int32.ofNat ([5, 4, 6, 3].getD i 0))) ∈ wFl := by decide +kernel
theorem s_el : ∀ i : Nat, i < 4 → ∀ j : Nat, j < [5, 4, 6, 3].getD i 0 → Cond.eq (.elem (.field (tmS i) "java/lang/String" "value" "[B") (.int (Int32.ofNat j))) (.int ((SBY.getD i []).getD j 0)) ∈ wFl := by decide +kernel
theorem s_ne : ∀ i : Nat, i < 4 → ∀ j : Nat, j < 4 → i ≠ j → Cond.not (Cond.eq (tmS i) (tmS j)) ∈ wFl ∨ Cond.not (Cond.eq (tmS j) (tmS i)) ∈ wFl := by decide +kernel
theorem s_z0 : Cond.eq (.static "java/lang/String" "COMPACT_STRINGS" "Z") (.int 1) ∈ wFl ∧ Cond.isRef (.static "jdk/internal/util/Preconditions" "SIOOBE_FORMATTER" "Ljava/util/function/BiFunction;") ∈ wFl ∧ Cond.isRef (.static Bundle.tN "UNASSIGNED_STACK" Bundle.steD) ∈ wFl ∧ Cond.isRef (.static Bundle.tN "SUPPRESSED_SENTINEL" Bundle.listD) ∈ wFl := by decide +kernel
theorem s_z1 : Cond.laysStatic "java/lang/String" "COMPACT_STRINGS" "Z" ∈ lw_tbl ∧ Cond.laysStatic "jdk/internal/util/Preconditions" "SIOOBE_FORMATTER" "Ljava/util/function/BiFunction;" ∈ lw_tbl ∧ Cond.laysStatic Bundle.tN "UNASSIGNED_STACK" Bundle.steD ∈ lw_tbl ∧ Cond.laysStatic Bundle.tN "SUPPRESSED_SENTINEL" Bundle.listD ∈ lw_tbl := by decide +kernel
theorem s_z2 : Cond.initialized "java/lang/String" ∈ lw_tbl ∧ Cond.initialized "jdk/internal/util/Preconditions" ∈ lw_tbl ∧ Cond.initialized Bundle.tN ∈ lw_tbl ∧ Cond.arrayOver (.object "Campground$Camp") ∈ lw_tbl := by decide +kernel
theorem s_z3 : Cond.arrayClass .int ∈ lw_tbl ∧ Cond.arrayClass .byte ∈ lw_tbl ∧ Cond.arrayClass .long ∈ lw_tbl ∧ Cond.arrayClass .boolean ∈ lw_tbl := by decide +kernel
section Entry
variable {s : State} {b : Nat} {args : Array Value}
/-- the four words -/
theorem st_w {A : Nat → Prop} (hs : ∀ w ∈ wFl, w.before args s = true) (hA : ∀ a : Nat, a < s.heap.size → ¬ A a) : ∃ adK adV : Nat → Nat, vk_S 4 [5, 4, 6, 3] SBY adK adV A s s.heap ∧ ∀ i : Nat, i < 4 → (tmS i).eval args s none [] s = some (.ref (adK i)) ∧ (tmM i).eval args s none [] s = some (.ref (adK i)) := by
  obtain ⟨adK, adV, h1, h2⟩ := vk_Sof (args := args) (s := s) (N := 4) (tm := tmS) (len := [5, 4, 6, 3]) (byt := SBY) (A := A) (by decide) (fun i hi => hs _ (s_ex i hi)) (fun i hi => hs _ (s_co i hi)) (fun i hi => hs _ (s_ar i hi)) (fun i hi => hs _ (s_le i hi)) (fun i hi j hj => hs _ (s_el i hi j hj)) (fun i j hi hj hij => (s_ne i hi j hj hij).imp (fun q => hs _ q) (fun q => hs _ q)) hA
  refine ⟨adK, adV, h1, fun i hi => ⟨h2 i hi, ?_⟩⟩
  obtain ⟨a, c, cell, k, q1, -⟩ := Cond.exactly_spec (args := args) (first := s) (o := none) (s := s) (idx := []) (t := tmM i) (cls := "java/lang/String") (hs _ (s_exm i hi))
  have q2 := Cond.eq_refs (args := args) (first := s) (out := none) (t := s) (idx := []) (hs _ (s_eqm i hi)) q1 rfl
  rw [q1, ← q2]
  exact h2 i hi
theorem st_ev (hts : ∀ w ∈ lw_tbl, w.before args s = true) (hs : ∀ w ∈ wFl, w.before args s = true) : ∃ sa : Nat → Nat, sa 30 = b ∧ EV sa (fun q => s.heap.size ≤ q) s s.heap := by
  have hA : ∀ a : Nat, a < s.heap.size → ¬ (fun q : Nat => s.heap.size ≤ q) a := fun a q => Nat.not_le.mpr q
  obtain ⟨adK, adV, hw, he⟩ := st_w (args := args) hs hA
  obtain ⟨v, hv, hr⟩ := Cond.isRef_spec (args := args) (first := s) (o := none) (s := s) (idx := []) (hs _ s_z0.2.1)
  obtain ⟨t0, ht0⟩ : ∃ t0 : Nat, v = .null ∨ v = .ref t0 := by
    cases v with
    | ref t => exact ⟨t, Or.inr rfl⟩
    | null => exact ⟨0, Or.inl rfl⟩
    | _ => cases hr
  refine ⟨fun k => if k = 30 then b else if k < 10 then adK k else if k < 20 then adV (k - 10) else t0, rfl, ?_⟩
  refine ⟨fun w hw => pw_warm (List.mem_filter.mp hw).2 (State.WarmedH.refl s) (hts w (List.mem_filter.mp hw).1), vx_Zqof (hts _ s_z1.2.2.1) (hts _ s_z2.2.2.1) (hs _ s_z0.2.2.1) hA, vx_Zqof (hts _ s_z1.2.2.2) (hts _ s_z2.2.2.1) (hs _ s_z0.2.2.2) hA, fun q hq => ?_, fun q hq => ?_, ⟨fun i hi => ?_, fun i j hi hj => ?_⟩, va_Zof (hts _ s_z1.1) (hts _ s_z2.1) (va_eqt (hs _ s_z0.1)) hA, ?_, fun q hq => va_Nc.of (hs _ (s_ncl q hq)), va_AO.of (hts _ s_z2.2.2.2)⟩
  · obtain ⟨a, c, cell, k, q1, -⟩ := Cond.exactly_spec (args := args) (first := s) (o := none) (s := s) (idx := []) (hs _ (s_stx q hq).2)
    exact ⟨a, vk_R.of (hts _ (s_stx q hq).1) q1⟩
  · have hr : (Cond.stringRef q.1 q.2.1 q.2.2.1).before args s = true := hts _ (s_stw q hq).1
    simp only [STW, List.mem_cons, List.not_mem_nil, or_false] at hq
    rcases hq with rfl | rfl | rfl | rfl | rfl | rfl | rfl | rfl
    · exact vk_R.of hr (he 0 (by decide)).1
    · exact vk_R.of hr (he 1 (by decide)).1
    · exact vk_R.of hr (he 2 (by decide)).1
    · exact vk_R.of hr (he 3 (by decide)).1
    · exact vk_R.of hr (he 0 (by decide)).2
    · exact vk_R.of hr (he 1 (by decide)).2
    · exact vk_R.of hr (he 2 (by decide)).2
    · exact vk_R.of hr (he 3 (by decide)).2
  · have e1 : (fun k => if k = 30 then b else if k < 10 then adK k else if k < 20 then adV (k - 10) else t0) i = adK i := by
      show (if i = 30 then b else if i < 10 then adK i else if i < 20 then adV (i - 10) else t0) = adK i
      rw [if_neg (by omega), if_pos (by omega)]
    have e2 : (fun k => if k = 30 then b else if k < 10 then adK k else if k < 20 then adV (k - 10) else t0) (10 + i) = adV i := by
      show (if 10 + i = 30 then b else if 10 + i < 10 then adK (10 + i) else if 10 + i < 20 then adV (10 + i - 10) else t0) = adV i
      rw [if_neg (by omega), if_neg (by omega), if_pos (by omega), Nat.add_sub_cancel_left]
    have := hw.1 i hi
    rw [← e1, ← e2] at this
    exact this
  · intro e
    refine hw.2 i j hi hj ?_
    have e1 : ∀ i, i < 4 → (if i = 30 then b else if i < 10 then adK i else if i < 20 then adV (i - 10) else t0) = adK i := fun i hi => by rw [if_neg (by omega), if_pos (by omega)]
    rw [← e1 i hi, ← e1 j hj]
    exact e
  · rcases ht0 with rfl | rfl
    · exact Or.inl (va_Zof (hts _ s_z1.2.1) (hts _ s_z2.2.1) hv hA)
    · exact Or.inr (va_Zof (hts _ s_z1.2.1) (hts _ s_z2.2.1) hv hA)
theorem k_of {own : String} {index ci N : Nat} {fs : List Value} (h : NW own index ci N fs) (hg : ∀ w ∈ GW, w.before args s = true) : ∃ x : ClassId × (Nat → Nat), ∀ q : vw_C, vwCl[ci]? = some q → u_Kn s q.1 q.2.1 q.2.2 x.1 x.2 := by
  obtain ⟨C, TT, ty, h1, h2, h3, h4, h5, -⟩ := h
  obtain ⟨cC, iS, hk⟩ := u_known (C := C) (T := TT) (N := N) hg h2 (hg _ h5)
  refine ⟨(cC, iS), fun q hq => ?_⟩
  rw [h1] at hq
  cases hq
  exact hk
theorem st_k (hts : ∀ w ∈ lw_tbl, w.before args s = true) : ∃ (kc : Nat → ClassId) (D : va_G), va_K D vwCl (tysOf kc) s := by
  have hg : ∀ w ∈ GW, w.before args s = true := fun w hw => hts w (List.mem_filter.mp hw).1
  have hall : ∀ c : Nat, ∃ x : ClassId × (Nat → Nat), ∀ q : vw_C, vwCl[c]? = some q → u_Kn s q.1 q.2.1 q.2.2 x.1 x.2 := fun c => match c with
    | 0 => k_of nw_X1_32 hg
    | 1 => k_of nw_X9_7 hg
    | 2 => k_of nw_X1_9 hg
    | 3 => k_of nw_X9_32 hg
    | 4 => k_of nw_X1_39 hg
    | 5 => k_of nw_X1_25 hg
    | 6 => k_of nw_X9_43 hg
    | 7 => k_of nw_X1_18 hg
    | 8 => k_of nw_X9_23 hg
    | 9 => k_of nw_L_8 hg
    | 10 => k_of nw_L_165 hg
    | c + 11 => by
      obtain ⟨x, -⟩ := k_of (args := args) (s := s) nw_X1_32 hg
      exact ⟨x, fun q h => by cases h⟩
  obtain ⟨f, hf⟩ := Classical.axiomOfChoice hall
  obtain ⟨a0, k0, p0, x0, y0, z0⟩ := Cond.arrayClass_spec (args := args) (first := s) (o := none) (s := s) (idx := []) (hts _ s_z3.1)
  obtain ⟨a1, k1, p1, x1, y1, z1⟩ := Cond.arrayClass_spec (args := args) (first := s) (o := none) (s := s) (idx := []) (hts _ s_z3.2.1)
  obtain ⟨a2, k2, p2, x2, y2, z2⟩ := Cond.arrayClass_spec (args := args) (first := s) (o := none) (s := s) (idx := []) (hts _ s_z3.2.2.1)
  obtain ⟨a3, k3, p3, x3, y3, z3⟩ := Cond.arrayClass_spec (args := args) (first := s) (o := none) (s := s) (idx := []) (hts _ s_z3.2.2.2)
  obtain ⟨p4, a4, k4, w4, -, y4, z4, x4⟩ := Cond.arrayOver_spec (args := args) (first := s) (o := none) (s := s) (idx := []) (hts _ s_z2.2.2.2)
  refine ⟨fun k => match k with | 0 => a0 | 1 => a1 | 2 => a2 | 3 => a3 | _ => a4, (fun c => (f c).1, fun c => (f c).2), fun c q hq => hf c q hq, fun k q hq => ?_⟩
  match k, hq with
  | 0, hq => cases hq; exact ⟨fun N z => ⟨fun k h => (by cases h), k0, y0, p0, z0⟩, x0⟩
  | 1, hq => cases hq; exact ⟨fun N z => ⟨fun k h => (by cases h), k1, y1, p1, z1⟩, x1⟩
  | 2, hq => cases hq; exact ⟨fun N z => ⟨fun k h => (by cases h), k2, y2, p2, z2⟩, x2⟩
  | 3, hq => cases hq; exact ⟨fun N z => ⟨fun k h => (by cases h), k3, y3, p3, z3⟩, x3⟩
  | 4, hq => cases hq; exact ⟨fun N z => ⟨fun k h => (by cases h), k4, y4, p4, z4⟩, k4, p4, y4, z4, w4, x4⟩
  | k + 5, hq => cases hq
end Entry

/-- what holds at the law's entry: the machine, the code, the tables' words (any of lw_tbl by 'hts w (by decide +kernel)'), the script of L ints xs at the cell b, what the Statement gives of the start (any of its parts by flat_of_before) -/
def lw_At (p : Program) (s : State) (m : MethodId) (meth : Method) (c : Code) (b L : Nat) (xs : Nat → Int32) : Prop :=
  p.tables.exec = Jvm.exec ∧ c.code = code ∧ meth.sig.returnType = ret ∧ c.maxLocals = 7 ∧ s.vm.findClass R_law = some m.cls ∧ (∀ w ∈ lw_tbl, w.before #[Value.ref b] s = true) ∧ va_X b L xs s s.heap ∧ b < s.heap.size ∧ meth.locks = false ∧ (Jvm.Cond.and given_1 narrow_1).before #[Value.ref b] s = true
/-- YOUR PART: from the entry, for every script of at most 3072 ints, the law comes to its end with true ('hflags': the launch's flags, for a law that throws: no stack traces) -/
theorem whole_start {p : Program} {e : Env} {s : State} {m : MethodId} {below : List Frame} {meth : Method} {c : Code} (l : Launch) (hflags : l.flags = flags0) {b L : Nat} {xs : Nat → Int32} (hL : L ≤ 3072) (C0 : lw_At p s m meth c b L xs) : W p l e room_1 s m #[Value.ref b] below meth c s.heap [] 0 0 (lw_Z below #[Value.ref b] s) (entryFrame m ([Value.ref b] : List Value).toArray 7) := by
  obtain ⟨hx, hb, hr, hml, hown, hts, hX, hbl, hlocks, hgv⟩ := C0
  have hs : ∀ w ∈ wFl, w.before #[Value.ref b] s = true := flat_of_before _ hgv
  obtain ⟨sa, hsb, hE⟩ := st_ev (b := b) hts hs
  obtain ⟨kc, D, hK⟩ := st_k hts
  have hz : (fun k => (fun i => sa (i - 900000)) (900000 + k)) = sa := by
    funext k
    show sa (900000 + k - 900000) = sa k
    rw [Nat.add_sub_cancel_left]
  have hl0 := lv_entry ([.ref b]) (n := 7) (Nat.le_of_ble_eq_true rfl)
  rw [lg_entry_eq]
  refine lw_first (b := b) (L := L) (xs := xs) hL (h := fun _ => .inl (0, 0, .inl (fun _ => 0))) p l e s m #[Value.ref b] below meth c s.heap [] _ (fun i => sa (i - 900000)) kc D (fun i => sa (i - 900000), 0) (fun q => s.heap.size ≤ q) ?_ ?_ ?_
  · refine ⟨hx, hb, hml, hown, fun w hw => hts w (List.mem_filter.mp hw).1, hlocks, hr, ?_, fun _ q => q, ?_, fun q => by cases q⟩
    · unfold Launch.stackTraces
      rw [hflags]
      decide +kernel
    · show EV (fun k => (fun i => sa (i - 900000)) (900000 + k)) _ _ _
      rw [hz]
      exact hE
  · exact ⟨hsb, hX, hbl, fun _ => Iff.rfl⟩
  · refine ⟨hK, fun k q h => by simp [cW] at h, ⟨fun i j p q h => by simp [cW] at h, fun k q h => by simp [cW] at h⟩, va_S.rf, fun _ _ => rfl, ⟨Nat.le_refl _, by decide⟩, hl0.1, hl0.2.1, fun i v hi => ?_⟩
    match i, hi with
    | 0, hi =>
      cases hi
      have := hl0.2.2 (0, .ref b) List.mem_cons_self
      rw [this]
      show some (Slot.val (.ref b)) = some (Slot.val (.ref (sa 30)))
      rw [hsb]
    | 1, hi => cases hi
    | 2, hi => cases hi
    | 3, hi => cases hi
    | 4, hi => cases hi
    | 5, hi => cases hi
    | 6, hi => cases hi
    | k + 7, hi => cases hi
set_option maxHeartbeats 4000000 in
theorem lw_walk (l : Launch) (hflags : l.flags = flags0) (b : Addr) (xs : List Int32) : MetFree l x (headSpec (Jvm.Cond.code x code maxLocals ret :: tables_1) room_1) (lw_P b xs) (fun _ _ _ _ _ => True) lw_Q := by
  refine MetFree.of_bodyS (code := code) (maxLocals := maxLocals) (ret := ret) (by decide) ?_ ?_
  · intro args s m h hn
    obtain ⟨meth, c, h1, h2, h3, h4, h5, h6, -, -⟩ := Cond.code_spec hn (atoms_spec (ws := Jvm.Cond.code x code maxLocals ret :: tables_1) h _ List.mem_cons_self)
    exact ⟨meth, c, h1, h2, h3, h4, h5, h6⟩
  · intro p e s m args below meth c s₁ B hml0 hP _
    obtain ⟨rfl, hx, hbd, hgv⟩ := hP
    obtain ⟨scr, harrAt, hlist, hof, hsmall⟩ := hx
    obtain ⟨hcb, hkn, -, -⟩ := State.arrayAt?_spec harrAt
    have hown : s.vm.findClass R_law = some m.cls := findClass_of_methodNamed B.named
    have hts0 : ∀ c ∈ (Jvm.Cond.code x code maxLocals ret :: tables_1), c.before #[Value.ref b] s = true := atoms_spec (ws := Jvm.Cond.code x code maxLocals ret :: tables_1) B.pre
    have hts : ∀ w ∈ lw_tbl, w.before #[Value.ref b] s = true := k2_hts_sels lw_privs (fun w hw => hts0 w (List.mem_cons_of_mem _ hw)) lw_privs_ok
    have hml : c.maxLocals = 7 := B.maxLocals_eq (hts0 _ List.mem_cons_self)
    have X₀ : Stand p l e room_1 s m #[Value.ref b] below meth c s₁ [] 0 0 := Stand.of_body B
    have hh0 : s₁.heap = s.heap := by rw [B.state]; rfl
    have hsz : scr.slots.size = xs.length := by rw [← Array.length_toList, hlist, List.length_map]
    have hval : ∀ j : Nat, j < xs.length → scr.slots[j]? = some (.int (xs.getD j 0)) := fun j hj => by
      rw [← Array.getElem?_toList, hlist]
      simp [hj]
    have hbl : b < s.heap.size := (Array.getElem?_eq_some_iff.mp hcb).1
    have hX : va_X b xs.length (fun j => xs.getD j 0) s s.heap := ⟨scr, hcb, hof, hkn, hsz, hval⟩
    have K : W p l e room_1 s m #[Value.ref b] below meth c s₁.heap [] 0 0 (lw_Z below #[Value.ref b] s) (entryFrame m ([Value.ref b] : List Value).toArray 7) := by
      rw [hh0]
      exact whole_start l hflags hbd ⟨B.exec, B.bytes, B.returns, hml, hown, hts, hX, hbl, B.notSynchronized, hgv⟩
    obtain ⟨t, a1, o, b1, b2, b3⟩ := K s₁ rfl X₀
    exact ⟨t, o, a1, b1, b2, b3⟩
theorem lw_pre_spec {args : Array Value} {s : State} (h : (Jvm.Cond.and given_1 narrow_1).before args s = true) (hr : rest_1_c.before args s = true) : ∃ (b : Addr) (xs : List Int32), lw_P b xs args s := by
  have hs := flat_of_before _ h
  have hq := flat_of_before _ hr
  have hc : (Cond.count 1).before args s = true := hs _ (by decide +kernel)
  have harr : (Cond.arrayOf (.arg 0) .int).before args s = true := hs _ (by decide +kernel)
  have hle : (Cond.le (.length (.arg 0)) (.int 3072)).before args s = true := hs _ (by decide +kernel)
  have hlen : (Cond.isInt (.length (.arg 0))).before args s = true := hq _ (by decide +kernel)
  have hall : (Cond.all (.arg 0) (.isInt (.elem (.arg 0) (.index 0)))).before args s = true := hq _ (by decide +kernel)
  obtain ⟨b, xs, hb, hx⟩ := State.ints_of_pre rfl harr hlen hall
  have hsm : xs.length < 2 ^ 31 := hx.choose_spec.2.2.2
  have hev : (Term.length (.arg 0)).eval args s none [] s = some (.int xs.length.toInt32) := hx.length_eval hb
  have hv := Cond.le_ints hev (show (Term.int 3072).eval args s none [] s = some (.int 3072) from rfl)
  have hd : xs.length.toInt32 ≤ 3072 := by
    simpa [Cond.before, Cond.holds, hv] using hle
  have hN : xs.length ≤ 3072 := (Int32.ofNat_le_ofNat hsm (by decide)).mp (show Int32.ofNat xs.length ≤ Int32.ofNat 3072 from hd)
  exact ⟨b, xs, Cond.one_arg hc (show args[0]? = some (.ref b) from hb), hx, hN, h⟩
theorem lw_comes (l : Launch) (hflags : l.flags = flags0) : Comes l x (Jvm.Cond.code x code maxLocals ret :: tables_1) room_1 (fun tb e args s => Calls_1 tb e args s ∧ rest_1 tb e args s ∧ Pre_1 tb e args s)
    (fun _ _ args s o t => lw_Q args s o t) := by
  intro p e ha hc hk s m args below hf hfit hheap happ hpre
  obtain ⟨b, xs, hP⟩ := lw_pre_spec hpre.2.2 hpre.2.1
  obtain ⟨k, o, h1, h2, h3, hQ⟩ := lw_walk l hflags b xs p e ha hc hk s m args below hf ((Spec.applies_iff_loose hf).mp happ).1 hP trivial
  exact ⟨k, o, h1, h2, h3, hQ⟩
theorem lw_frame {s t : State} {o : Outcome} {args : Array Value} (h : Framed s o t [] 601024 7293034) :
    Framed s o t (fieldLocs frame_1_writes args s ++ arrayLocs frame_1_arrays args s ++ staticLocs frame_1_statics s) 601024 7293034 := h
theorem lw_limb (L : Cond) (hL : ∀ (args : Array Value) (s t : State), L.after args s (.returned (some (.int 1))) t = true) :
    ArmFor flags0 classFile x code maxLocals ret World_1 tables_1 room_1 Calls_1 rest_1 Pre_1
      (fun tb e a s o t => postC L tb e a s o t ∧ Framed s o t (fieldLocs frame_1_writes a s ++ arrayLocs frame_1_arrays a s ++ staticLocs frame_1_statics s) 601024 7293034) := by
  intro l hflags _ _ p e ha hc hk s m args below hf hfit hheap happ hpre
  obtain ⟨k, o, h1, h2, h3, rfl, hF⟩ := lw_comes l hflags p e ha hc hk s m args below hf hfit hheap happ hpre
  exact ⟨k, _, h1, h2, h3, hL args s _, lw_frame hF⟩
theorem i_vc : Claimed_1_1 ∧ Claimed_1_2 := ⟨lw_limb limb_1_1 (fun args s t => by simp [limb_1_1, Cond.after, Cond.holds, Cond.value]), lw_limb limb_1_2 (fun args s t => Cond.after_iff.mpr (by
  first | (rw [show limb_1_2 = Cond.eq .result (.int 1) from rfl, Cond.eq_ints (x := 1) (y := 1) rfl rfl]; simp; done) | (simp [limb_1_2, Cond.value, Term.eval]; done)))⟩
