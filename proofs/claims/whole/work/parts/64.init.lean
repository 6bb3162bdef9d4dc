theorem lc_nil {n : Nat} : LC n [] := fun v h => by cases h
theorem lc_n {n : Nat} {lo : List (Option Value)} (h : LC n lo) : LC n (none :: lo) := fun v hv => by
  rcases List.mem_cons.mp hv with q | q
  · cases q
  · exact h v q
theorem lc_r {n r : Nat} {lo : List (Option Value)} (hr : r < n) (h : LC n lo) : LC n (some (.ref r) :: lo) := fun v hv => by
  rcases List.mem_cons.mp hv with q | q
  · cases q; exact Or.inl hr
  · exact h v q
theorem lc_i {n : Nat} {x : Int32} {lo : List (Option Value)} (h : LC n lo) : LC n (some (.int x) :: lo) := fun v hv => by
  rcases List.mem_cons.mp hv with q | q
  · cases q; trivial
  · exact h v q
theorem sc_nil {n : Nat} : ∀ v ∈ ([] : List Value), clV n v := fun v h => by cases h
theorem sc_r {n r : Nat} {st : List Value} (hr : r < n) (h : ∀ v ∈ st, clV n v) : ∀ v ∈ (.ref r :: st), clV n v := List.forall_mem_cons.mpr ⟨Or.inl hr, h⟩
theorem sc_i {n : Nat} {x : Int32} {st : List Value} (h : ∀ v ∈ st, clV n v) : ∀ v ∈ (.int x :: st), clV n v := List.forall_mem_cons.mpr ⟨trivial, h⟩
theorem sc_l {n : Nat} {x : Int64} {st : List Value} (h : ∀ v ∈ st, clV n v) : ∀ v ∈ (.long x :: st), clV n v := List.forall_mem_cons.mpr ⟨trivial, h⟩
theorem sc_0 {n : Nat} {st : List Value} (h : ∀ v ∈ st, clV n v) : ∀ v ∈ (.null :: st), clV n v := List.forall_mem_cons.mpr ⟨trivial, h⟩
theorem aw_nq {T : ATy} {Q : AQ} {CX : AC} {pc : Nat} {lo : List (Option Value)} {st : List Value} {h : Nat → AE} {n n' ce sl : Nat} (e : n = n') (k : AW T Q CX pc lo st h n' ce sl) : AW T Q CX pc lo st h n ce sl := by subst e; exact k
def At_X2 (h : Nat → AE) (b : Nat) : Prop := h b = .inr (2, [.ref (b + 1), .ref (b + 2), .ref (b + 3), .int 0]) ∧ h (b + 1) = .inl (0, 4, .inl (fun _ => 0)) ∧ h (b + 2) = .inl (0, 4, .inl (fun _ => 0)) ∧ h (b + 3) = .inl (0, 4, .inl (fun _ => 0))
theorem At_X2_tr  {h h' : Nat → AE} {b : Nat} (q : At_X2 h b) (o : ∀ i, b ≤ i → i < b + 4 → h' i = h i) : At_X2 h' b := ⟨(o _ (by omega) (by omega)).trans q.1, (o _ (by omega) (by omega)).trans q.2.1, (o _ (by omega) (by omega)).trans q.2.2.1, (o _ (by omega) (by omega)).trans q.2.2.2⟩
def IP_X2 (b : Nat) (h : Nat → AE) : APost := fun o h' n' => o = .inl none ∧ n' = b + 4 ∧ HC h' (b + 4) ∧ (∀ i, i < b → h' i = h i) ∧ At_X2 h' b
set_option maxRecDepth 100000 in
set_option maxHeartbeats 4000000 in
theorem c_X2_init {h : Nat → AE} {b : Nat} (hb : b < 850000)  (e0_0 : h b = .inr (2, [.null, .null, .null, .int 0])) (C0 : HC h (b + 1)) : AMet tX2_init yX2_init [Cond.code yX2_init cX2_init 1 none] [.ref b] h (b + 1) (IP_X2 b h) := by
  have o0 : ∀ i, i < b → h i = h i := fun _ _ => rfl
  refine am_of (lo := [_]) (by decide) rfl (fun _ => rfl) rfl rfl rfl ?_
  refine aw_aload_n dX2_init_0 rfl ?_
  refine aw_objI kj_X2_3 dX2_init_1 ⟨by decide, by decide⟩ ?_
  refine aw_aload_n dX2_init_4 rfl ?_
  refine aw_iconst (v := 4) dX2_init_5 (by decide) ?_
  refine awn_int (N := 4) (by decide) (by decide) (by decide) dX2_init_6 C0 (by omega) (lc_r (by omega) lc_nil) (sc_r (by omega) sc_nil) (by decide) (by decide) ?_
  obtain ⟨h1, q1⟩ : ∃ y9, y9 = hset h (b + 1) (.inl (0, 4, .inl (fun _ => 0))) := ⟨_, rfl⟩
  have C1 : HC h1 (b + 2) := by rw [q1]; exact HC.new C0 trivial
  have o1 : ∀ i, i < b → h1 i = h i := fun i hi => by rw [q1]; exact (hset_n (by omega)).trans (o0 i hi)
  have e0_1 : h1 b = .inr (2, [.null, .null, .null, .int 0]) := by rw [q1]; exact hset_q (by omega) e0_0
  have e1_1 : h1 (b + 1) = .inl (0, 4, .inl (fun _ => 0)) := by rw [q1]; exact hset_s
  refine aw_heq q1.symm ?_
  obtain ⟨h2, q2⟩ : ∃ y9, y9 = hset h1 b (.inr (2, [.ref (b + 1), .null, .null, .int 0])) := ⟨_, rfl⟩
  have C2 : HC h2 (b + 2) := by rw [q2]; exact HC.set C1 (sc_r (by omega) (sc_0 (sc_0 (sc_i sc_nil))))
  have o2 : ∀ i, i < b → h2 i = h i := fun i hi => by rw [q2]; exact (hset_n (by omega)).trans (o1 i hi)
  have e1_2 : h2 (b + 1) = .inl (0, 4, .inl (fun _ => 0)) := by rw [q2]; exact hset_q (by omega) e1_1
  have e0_2 : h2 b = .inr (2, [.ref (b + 1), .null, .null, .int 0]) := by rw [q2]; exact hset_s
  refine aw_put fp_X2_9_i dX2_init_8 e0_1 (by omega) (ble' rfl) (fun _ => ⟨rfl, rfl⟩) q2.symm ?_
  refine aw_aload_n dX2_init_11 rfl ?_
  refine aw_iconst (v := 4) dX2_init_12 (by decide) ?_
  refine awn_int (N := 4) (by decide) (by decide) (by decide) dX2_init_13 C2 (by omega) (lc_r (by omega) lc_nil) (sc_r (by omega) sc_nil) (by decide) (by decide) ?_
  obtain ⟨h3, q3⟩ : ∃ y9, y9 = hset h2 (b + 2) (.inl (0, 4, .inl (fun _ => 0))) := ⟨_, rfl⟩
  have C3 : HC h3 (b + 3) := by rw [q3]; exact HC.new C2 trivial
  have o3 : ∀ i, i < b → h3 i = h i := fun i hi => by rw [q3]; exact (hset_n (by omega)).trans (o2 i hi)
  have e0_3 : h3 b = .inr (2, [.ref (b + 1), .null, .null, .int 0]) := by rw [q3]; exact hset_q (by omega) e0_2
  have e1_3 : h3 (b + 1) = .inl (0, 4, .inl (fun _ => 0)) := by rw [q3]; exact hset_q (by omega) e1_2
  have e2_3 : h3 (b + 2) = .inl (0, 4, .inl (fun _ => 0)) := by rw [q3]; exact hset_s
  refine aw_heq q3.symm ?_
  obtain ⟨h4, q4⟩ : ∃ y9, y9 = hset h3 b (.inr (2, [.ref (b + 1), .ref (b + 2), .null, .int 0])) := ⟨_, rfl⟩
  have C4 : HC h4 (b + 3) := by rw [q4]; exact HC.set C3 (sc_r (by omega) (sc_r (by omega) (sc_0 (sc_i sc_nil))))
  have o4 : ∀ i, i < b → h4 i = h i := fun i hi => by rw [q4]; exact (hset_n (by omega)).trans (o3 i hi)
  have e1_4 : h4 (b + 1) = .inl (0, 4, .inl (fun _ => 0)) := by rw [q4]; exact hset_q (by omega) e1_3
  have e2_4 : h4 (b + 2) = .inl (0, 4, .inl (fun _ => 0)) := by rw [q4]; exact hset_q (by omega) e2_3
  have e0_4 : h4 b = .inr (2, [.ref (b + 1), .ref (b + 2), .null, .int 0]) := by rw [q4]; exact hset_s
  refine aw_put fp_X2_15_i dX2_init_15 e0_3 (by omega) (ble' rfl) (fun _ => ⟨rfl, rfl⟩) q4.symm ?_
  refine aw_aload_n dX2_init_18 rfl ?_
  refine aw_iconst (v := 4) dX2_init_19 (by decide) ?_
  refine awn_int (N := 4) (by decide) (by decide) (by decide) dX2_init_20 C4 (by omega) (lc_r (by omega) lc_nil) (sc_r (by omega) sc_nil) (by decide) (by decide) ?_
  obtain ⟨h5, q5⟩ : ∃ y9, y9 = hset h4 (b + 3) (.inl (0, 4, .inl (fun _ => 0))) := ⟨_, rfl⟩
  have C5 : HC h5 (b + 4) := by rw [q5]; exact HC.new C4 trivial
  have o5 : ∀ i, i < b → h5 i = h i := fun i hi => by rw [q5]; exact (hset_n (by omega)).trans (o4 i hi)
  have e0_5 : h5 b = .inr (2, [.ref (b + 1), .ref (b + 2), .null, .int 0]) := by rw [q5]; exact hset_q (by omega) e0_4
  have e1_5 : h5 (b + 1) = .inl (0, 4, .inl (fun _ => 0)) := by rw [q5]; exact hset_q (by omega) e1_4
  have e2_5 : h5 (b + 2) = .inl (0, 4, .inl (fun _ => 0)) := by rw [q5]; exact hset_q (by omega) e2_4
  have e3_5 : h5 (b + 3) = .inl (0, 4, .inl (fun _ => 0)) := by rw [q5]; exact hset_s
  refine aw_heq q5.symm ?_
  obtain ⟨h6, q6⟩ : ∃ y9, y9 = hset h5 b (.inr (2, [.ref (b + 1), .ref (b + 2), .ref (b + 3), .int 0])) := ⟨_, rfl⟩
  have C6 : HC h6 (b + 4) := by rw [q6]; exact HC.set C5 (sc_r (by omega) (sc_r (by omega) (sc_r (by omega) (sc_i sc_nil))))
  have o6 : ∀ i, i < b → h6 i = h i := fun i hi => by rw [q6]; exact (hset_n (by omega)).trans (o5 i hi)
  have e1_6 : h6 (b + 1) = .inl (0, 4, .inl (fun _ => 0)) := by rw [q6]; exact hset_q (by omega) e1_5
  have e2_6 : h6 (b + 2) = .inl (0, 4, .inl (fun _ => 0)) := by rw [q6]; exact hset_q (by omega) e2_5
  have e3_6 : h6 (b + 3) = .inl (0, 4, .inl (fun _ => 0)) := by rw [q6]; exact hset_q (by omega) e3_5
  have e0_6 : h6 b = .inr (2, [.ref (b + 1), .ref (b + 2), .ref (b + 3), .int 0]) := by rw [q6]; exact hset_s
  refine aw_put fp_X2_18_i dX2_init_22 e0_5 (by omega) (ble' rfl) (fun _ => ⟨rfl, rfl⟩) q6.symm ?_
  refine aw_aload_n dX2_init_25 rfl ?_
  refine aw_iconst (v := 0) dX2_init_26 (by decide) ?_
  obtain ⟨h7, q7⟩ : ∃ y9, y9 = hset h6 b (.inr (2, [.ref (b + 1), .ref (b + 2), .ref (b + 3), .int 0])) := ⟨_, rfl⟩
  have C7 : HC h7 (b + 4) := by rw [q7]; exact HC.set C6 (sc_r (by omega) (sc_r (by omega) (sc_r (by omega) (sc_i sc_nil))))
  have o7 : ∀ i, i < b → h7 i = h i := fun i hi => by rw [q7]; exact (hset_n (by omega)).trans (o6 i hi)
  have e1_7 : h7 (b + 1) = .inl (0, 4, .inl (fun _ => 0)) := by rw [q7]; exact hset_q (by omega) e1_6
  have e2_7 : h7 (b + 2) = .inl (0, 4, .inl (fun _ => 0)) := by rw [q7]; exact hset_q (by omega) e2_6
  have e3_7 : h7 (b + 3) = .inl (0, 4, .inl (fun _ => 0)) := by rw [q7]; exact hset_q (by omega) e3_6
  have e0_7 : h7 b = .inr (2, [.ref (b + 1), .ref (b + 2), .ref (b + 3), .int 0]) := by rw [q7]; exact hset_s
  refine aw_put fp_X2_21_i dX2_init_27 e0_6 (by omega) (ble' rfl) (fun _ => ⟨rfl, rfl⟩) q7.symm ?_
  refine aw_vret rfl dX2_init_30 (ble' rfl) (ble' rfl) ?_
  exact ⟨rfl, rfl, C7, o7, e0_7, e1_7, e2_7, e3_7⟩

def At_X7 (h : Nat → AE) (b : Nat) : Prop := h b = .inr (7, [.ref (b + 1), .ref (b + 2), .int 0]) ∧ h (b + 1) = .inl (0, 16, .inl (fun _ => 0)) ∧ h (b + 2) = .inl (0, 16, .inl (fun _ => 0))
theorem At_X7_tr  {h h' : Nat → AE} {b : Nat} (q : At_X7 h b) (o : ∀ i, b ≤ i → i < b + 3 → h' i = h i) : At_X7 h' b := ⟨(o _ (by omega) (by omega)).trans q.1, (o _ (by omega) (by omega)).trans q.2.1, (o _ (by omega) (by omega)).trans q.2.2⟩
def IP_X7 (b : Nat) (h : Nat → AE) : APost := fun o h' n' => o = .inl none ∧ n' = b + 3 ∧ HC h' (b + 3) ∧ (∀ i, i < b → h' i = h i) ∧ At_X7 h' b
set_option maxRecDepth 100000 in
set_option maxHeartbeats 4000000 in
theorem c_X7_init {h : Nat → AE} {b : Nat} (hb : b < 850000)  (e0_0 : h b = .inr (7, [.null, .null, .int 0])) (C0 : HC h (b + 1)) : AMet tX7_init yX7_init [Cond.code yX7_init cX7_init 1 none] [.ref b] h (b + 1) (IP_X7 b h) := by
  have o0 : ∀ i, i < b → h i = h i := fun _ _ => rfl
  refine am_of (lo := [_]) (by decide) rfl (fun _ => rfl) rfl rfl rfl ?_
  refine aw_aload_n dX7_init_0 rfl ?_
  refine aw_objI kj_X7_3 dX7_init_1 ⟨by decide, by decide⟩ ?_
  refine aw_aload_n dX7_init_4 rfl ?_
  refine aw_bipush (v := 16) dX7_init_5 (by decide) ?_
  refine awn_int (N := 16) (by decide) (by decide) (by decide) dX7_init_7 C0 (by omega) (lc_r (by omega) lc_nil) (sc_r (by omega) sc_nil) (by decide) (by decide) ?_
  obtain ⟨h1, q1⟩ : ∃ y9, y9 = hset h (b + 1) (.inl (0, 16, .inl (fun _ => 0))) := ⟨_, rfl⟩
  have C1 : HC h1 (b + 2) := by rw [q1]; exact HC.new C0 trivial
  have o1 : ∀ i, i < b → h1 i = h i := fun i hi => by rw [q1]; exact (hset_n (by omega)).trans (o0 i hi)
  have e0_1 : h1 b = .inr (7, [.null, .null, .int 0]) := by rw [q1]; exact hset_q (by omega) e0_0
  have e1_1 : h1 (b + 1) = .inl (0, 16, .inl (fun _ => 0)) := by rw [q1]; exact hset_s
  refine aw_heq q1.symm ?_
  obtain ⟨h2, q2⟩ : ∃ y9, y9 = hset h1 b (.inr (7, [.ref (b + 1), .null, .int 0])) := ⟨_, rfl⟩
  have C2 : HC h2 (b + 2) := by rw [q2]; exact HC.set C1 (sc_r (by omega) (sc_0 (sc_i sc_nil)))
  have o2 : ∀ i, i < b → h2 i = h i := fun i hi => by rw [q2]; exact (hset_n (by omega)).trans (o1 i hi)
  have e1_2 : h2 (b + 1) = .inl (0, 16, .inl (fun _ => 0)) := by rw [q2]; exact hset_q (by omega) e1_1
  have e0_2 : h2 b = .inr (7, [.ref (b + 1), .null, .int 0]) := by rw [q2]; exact hset_s
  refine aw_put fp_X7_9_i dX7_init_9 e0_1 (by omega) (ble' rfl) (fun _ => ⟨rfl, rfl⟩) q2.symm ?_
  refine aw_aload_n dX7_init_12 rfl ?_
  refine aw_bipush (v := 16) dX7_init_13 (by decide) ?_
  refine awn_int (N := 16) (by decide) (by decide) (by decide) dX7_init_15 C2 (by omega) (lc_r (by omega) lc_nil) (sc_r (by omega) sc_nil) (by decide) (by decide) ?_
  obtain ⟨h3, q3⟩ : ∃ y9, y9 = hset h2 (b + 2) (.inl (0, 16, .inl (fun _ => 0))) := ⟨_, rfl⟩
  have C3 : HC h3 (b + 3) := by rw [q3]; exact HC.new C2 trivial
  have o3 : ∀ i, i < b → h3 i = h i := fun i hi => by rw [q3]; exact (hset_n (by omega)).trans (o2 i hi)
  have e0_3 : h3 b = .inr (7, [.ref (b + 1), .null, .int 0]) := by rw [q3]; exact hset_q (by omega) e0_2
  have e1_3 : h3 (b + 1) = .inl (0, 16, .inl (fun _ => 0)) := by rw [q3]; exact hset_q (by omega) e1_2
  have e2_3 : h3 (b + 2) = .inl (0, 16, .inl (fun _ => 0)) := by rw [q3]; exact hset_s
  refine aw_heq q3.symm ?_
  obtain ⟨h4, q4⟩ : ∃ y9, y9 = hset h3 b (.inr (7, [.ref (b + 1), .ref (b + 2), .int 0])) := ⟨_, rfl⟩
  have C4 : HC h4 (b + 3) := by rw [q4]; exact HC.set C3 (sc_r (by omega) (sc_r (by omega) (sc_i sc_nil)))
  have o4 : ∀ i, i < b → h4 i = h i := fun i hi => by rw [q4]; exact (hset_n (by omega)).trans (o3 i hi)
  have e1_4 : h4 (b + 1) = .inl (0, 16, .inl (fun _ => 0)) := by rw [q4]; exact hset_q (by omega) e1_3
  have e2_4 : h4 (b + 2) = .inl (0, 16, .inl (fun _ => 0)) := by rw [q4]; exact hset_q (by omega) e2_3
  have e0_4 : h4 b = .inr (7, [.ref (b + 1), .ref (b + 2), .int 0]) := by rw [q4]; exact hset_s
  refine aw_put fp_X7_15_i dX7_init_17 e0_3 (by omega) (ble' rfl) (fun _ => ⟨rfl, rfl⟩) q4.symm ?_
  refine aw_aload_n dX7_init_20 rfl ?_
  refine aw_iconst (v := 0) dX7_init_21 (by decide) ?_
  obtain ⟨h5, q5⟩ : ∃ y9, y9 = hset h4 b (.inr (7, [.ref (b + 1), .ref (b + 2), .int 0])) := ⟨_, rfl⟩
  have C5 : HC h5 (b + 3) := by rw [q5]; exact HC.set C4 (sc_r (by omega) (sc_r (by omega) (sc_i sc_nil)))
  have o5 : ∀ i, i < b → h5 i = h i := fun i hi => by rw [q5]; exact (hset_n (by omega)).trans (o4 i hi)
  have e1_5 : h5 (b + 1) = .inl (0, 16, .inl (fun _ => 0)) := by rw [q5]; exact hset_q (by omega) e1_4
  have e2_5 : h5 (b + 2) = .inl (0, 16, .inl (fun _ => 0)) := by rw [q5]; exact hset_q (by omega) e2_4
  have e0_5 : h5 b = .inr (7, [.ref (b + 1), .ref (b + 2), .int 0]) := by rw [q5]; exact hset_s
  refine aw_put fp_X7_18_i dX7_init_22 e0_4 (by omega) (ble' rfl) (fun _ => ⟨rfl, rfl⟩) q5.symm ?_
  refine aw_vret rfl dX7_init_25 (ble' rfl) (ble' rfl) ?_
  exact ⟨rfl, rfl, C5, o5, e0_5, e1_5, e2_5⟩

def At_X5 (h : Nat → AE) (b : Nat) : Prop := h b = .inr (5, [.ref (b + 1), .ref (b + 2), .ref (b + 3), .ref (b + 4), .ref (b + 5), .int 0]) ∧ h (b + 1) = .inl (0, 12, .inl (fun _ => 0)) ∧ h (b + 2) = .inl (0, 12, .inl (fun _ => 0)) ∧ h (b + 3) = .inl (0, 12, .inl (fun _ => 0)) ∧ h (b + 4) = .inl (0, 12, .inl (fun _ => 0)) ∧ h (b + 5) = .inl (0, 12, .inl (fun _ => 0))
theorem At_X5_tr  {h h' : Nat → AE} {b : Nat} (q : At_X5 h b) (o : ∀ i, b ≤ i → i < b + 6 → h' i = h i) : At_X5 h' b := ⟨(o _ (by omega) (by omega)).trans q.1, (o _ (by omega) (by omega)).trans q.2.1, (o _ (by omega) (by omega)).trans q.2.2.1, (o _ (by omega) (by omega)).trans q.2.2.2.1, (o _ (by omega) (by omega)).trans q.2.2.2.2.1, (o _ (by omega) (by omega)).trans q.2.2.2.2.2⟩
def IP_X5 (b : Nat) (h : Nat → AE) : APost := fun o h' n' => o = .inl none ∧ n' = b + 6 ∧ HC h' (b + 6) ∧ (∀ i, i < b → h' i = h i) ∧ At_X5 h' b
set_option maxRecDepth 100000 in
set_option maxHeartbeats 4000000 in
theorem c_X5_init {h : Nat → AE} {b : Nat} (hb : b < 850000)  (e0_0 : h b = .inr (5, [.null, .null, .null, .null, .null, .int 0])) (C0 : HC h (b + 1)) : AMet tX5_init yX5_init [Cond.code yX5_init cX5_init 1 none] [.ref b] h (b + 1) (IP_X5 b h) := by
  have o0 : ∀ i, i < b → h i = h i := fun _ _ => rfl
  refine am_of (lo := [_]) (by decide) rfl (fun _ => rfl) rfl rfl rfl ?_
  refine aw_aload_n dX5_init_0 rfl ?_
  refine aw_objI kj_X5_3 dX5_init_1 ⟨by decide, by decide⟩ ?_
  refine aw_aload_n dX5_init_4 rfl ?_
  refine aw_bipush (v := 12) dX5_init_5 (by decide) ?_
  refine awn_int (N := 12) (by decide) (by decide) (by decide) dX5_init_7 C0 (by omega) (lc_r (by omega) lc_nil) (sc_r (by omega) sc_nil) (by decide) (by decide) ?_
  obtain ⟨h1, q1⟩ : ∃ y9, y9 = hset h (b + 1) (.inl (0, 12, .inl (fun _ => 0))) := ⟨_, rfl⟩
  have C1 : HC h1 (b + 2) := by rw [q1]; exact HC.new C0 trivial
  have o1 : ∀ i, i < b → h1 i = h i := fun i hi => by rw [q1]; exact (hset_n (by omega)).trans (o0 i hi)
  have e0_1 : h1 b = .inr (5, [.null, .null, .null, .null, .null, .int 0]) := by rw [q1]; exact hset_q (by omega) e0_0
  have e1_1 : h1 (b + 1) = .inl (0, 12, .inl (fun _ => 0)) := by rw [q1]; exact hset_s
  refine aw_heq q1.symm ?_
  obtain ⟨h2, q2⟩ : ∃ y9, y9 = hset h1 b (.inr (5, [.ref (b + 1), .null, .null, .null, .null, .int 0])) := ⟨_, rfl⟩
  have C2 : HC h2 (b + 2) := by rw [q2]; exact HC.set C1 (sc_r (by omega) (sc_0 (sc_0 (sc_0 (sc_0 (sc_i sc_nil))))))
  have o2 : ∀ i, i < b → h2 i = h i := fun i hi => by rw [q2]; exact (hset_n (by omega)).trans (o1 i hi)
  have e1_2 : h2 (b + 1) = .inl (0, 12, .inl (fun _ => 0)) := by rw [q2]; exact hset_q (by omega) e1_1
  have e0_2 : h2 b = .inr (5, [.ref (b + 1), .null, .null, .null, .null, .int 0]) := by rw [q2]; exact hset_s
  refine aw_put fp_X5_9_i dX5_init_9 e0_1 (by omega) (ble' rfl) (fun _ => ⟨rfl, rfl⟩) q2.symm ?_
  refine aw_aload_n dX5_init_12 rfl ?_
  refine aw_bipush (v := 12) dX5_init_13 (by decide) ?_
  refine awn_int (N := 12) (by decide) (by decide) (by decide) dX5_init_15 C2 (by omega) (lc_r (by omega) lc_nil) (sc_r (by omega) sc_nil) (by decide) (by decide) ?_
  obtain ⟨h3, q3⟩ : ∃ y9, y9 = hset h2 (b + 2) (.inl (0, 12, .inl (fun _ => 0))) := ⟨_, rfl⟩
  have C3 : HC h3 (b + 3) := by rw [q3]; exact HC.new C2 trivial
  have o3 : ∀ i, i < b → h3 i = h i := fun i hi => by rw [q3]; exact (hset_n (by omega)).trans (o2 i hi)
  have e0_3 : h3 b = .inr (5, [.ref (b + 1), .null, .null, .null, .null, .int 0]) := by rw [q3]; exact hset_q (by omega) e0_2
  have e1_3 : h3 (b + 1) = .inl (0, 12, .inl (fun _ => 0)) := by rw [q3]; exact hset_q (by omega) e1_2
  have e2_3 : h3 (b + 2) = .inl (0, 12, .inl (fun _ => 0)) := by rw [q3]; exact hset_s
  refine aw_heq q3.symm ?_
  obtain ⟨h4, q4⟩ : ∃ y9, y9 = hset h3 b (.inr (5, [.ref (b + 1), .ref (b + 2), .null, .null, .null, .int 0])) := ⟨_, rfl⟩
  have C4 : HC h4 (b + 3) := by rw [q4]; exact HC.set C3 (sc_r (by omega) (sc_r (by omega) (sc_0 (sc_0 (sc_0 (sc_i sc_nil))))))
  have o4 : ∀ i, i < b → h4 i = h i := fun i hi => by rw [q4]; exact (hset_n (by omega)).trans (o3 i hi)
  have e1_4 : h4 (b + 1) = .inl (0, 12, .inl (fun _ => 0)) := by rw [q4]; exact hset_q (by omega) e1_3
  have e2_4 : h4 (b + 2) = .inl (0, 12, .inl (fun _ => 0)) := by rw [q4]; exact hset_q (by omega) e2_3
  have e0_4 : h4 b = .inr (5, [.ref (b + 1), .ref (b + 2), .null, .null, .null, .int 0]) := by rw [q4]; exact hset_s
  refine aw_put fp_X5_15_i dX5_init_17 e0_3 (by omega) (ble' rfl) (fun _ => ⟨rfl, rfl⟩) q4.symm ?_
  refine aw_aload_n dX5_init_20 rfl ?_
  refine aw_bipush (v := 12) dX5_init_21 (by decide) ?_
  refine awn_int (N := 12) (by decide) (by decide) (by decide) dX5_init_23 C4 (by omega) (lc_r (by omega) lc_nil) (sc_r (by omega) sc_nil) (by decide) (by decide) ?_
  obtain ⟨h5, q5⟩ : ∃ y9, y9 = hset h4 (b + 3) (.inl (0, 12, .inl (fun _ => 0))) := ⟨_, rfl⟩
  have C5 : HC h5 (b + 4) := by rw [q5]; exact HC.new C4 trivial
  have o5 : ∀ i, i < b → h5 i = h i := fun i hi => by rw [q5]; exact (hset_n (by omega)).trans (o4 i hi)
  have e0_5 : h5 b = .inr (5, [.ref (b + 1), .ref (b + 2), .null, .null, .null, .int 0]) := by rw [q5]; exact hset_q (by omega) e0_4
  have e1_5 : h5 (b + 1) = .inl (0, 12, .inl (fun _ => 0)) := by rw [q5]; exact hset_q (by omega) e1_4
  have e2_5 : h5 (b + 2) = .inl (0, 12, .inl (fun _ => 0)) := by rw [q5]; exact hset_q (by omega) e2_4
  have e3_5 : h5 (b + 3) = .inl (0, 12, .inl (fun _ => 0)) := by rw [q5]; exact hset_s
  refine aw_heq q5.symm ?_
  obtain ⟨h6, q6⟩ : ∃ y9, y9 = hset h5 b (.inr (5, [.ref (b + 1), .ref (b + 2), .ref (b + 3), .null, .null, .int 0])) := ⟨_, rfl⟩
  have C6 : HC h6 (b + 4) := by rw [q6]; exact HC.set C5 (sc_r (by omega) (sc_r (by omega) (sc_r (by omega) (sc_0 (sc_0 (sc_i sc_nil))))))
  have o6 : ∀ i, i < b → h6 i = h i := fun i hi => by rw [q6]; exact (hset_n (by omega)).trans (o5 i hi)
  have e1_6 : h6 (b + 1) = .inl (0, 12, .inl (fun _ => 0)) := by rw [q6]; exact hset_q (by omega) e1_5
  have e2_6 : h6 (b + 2) = .inl (0, 12, .inl (fun _ => 0)) := by rw [q6]; exact hset_q (by omega) e2_5
  have e3_6 : h6 (b + 3) = .inl (0, 12, .inl (fun _ => 0)) := by rw [q6]; exact hset_q (by omega) e3_5
  have e0_6 : h6 b = .inr (5, [.ref (b + 1), .ref (b + 2), .ref (b + 3), .null, .null, .int 0]) := by rw [q6]; exact hset_s
  refine aw_put fp_X5_18_i dX5_init_25 e0_5 (by omega) (ble' rfl) (fun _ => ⟨rfl, rfl⟩) q6.symm ?_
  refine aw_aload_n dX5_init_28 rfl ?_
  refine aw_bipush (v := 12) dX5_init_29 (by decide) ?_
  refine awn_int (N := 12) (by decide) (by decide) (by decide) dX5_init_31 C6 (by omega) (lc_r (by omega) lc_nil) (sc_r (by omega) sc_nil) (by decide) (by decide) ?_
  obtain ⟨h7, q7⟩ : ∃ y9, y9 = hset h6 (b + 4) (.inl (0, 12, .inl (fun _ => 0))) := ⟨_, rfl⟩
  have C7 : HC h7 (b + 5) := by rw [q7]; exact HC.new C6 trivial
  have o7 : ∀ i, i < b → h7 i = h i := fun i hi => by rw [q7]; exact (hset_n (by omega)).trans (o6 i hi)
  have e0_7 : h7 b = .inr (5, [.ref (b + 1), .ref (b + 2), .ref (b + 3), .null, .null, .int 0]) := by rw [q7]; exact hset_q (by omega) e0_6
  have e1_7 : h7 (b + 1) = .inl (0, 12, .inl (fun _ => 0)) := by rw [q7]; exact hset_q (by omega) e1_6
  have e2_7 : h7 (b + 2) = .inl (0, 12, .inl (fun _ => 0)) := by rw [q7]; exact hset_q (by omega) e2_6
  have e3_7 : h7 (b + 3) = .inl (0, 12, .inl (fun _ => 0)) := by rw [q7]; exact hset_q (by omega) e3_6
  have e4_7 : h7 (b + 4) = .inl (0, 12, .inl (fun _ => 0)) := by rw [q7]; exact hset_s
  refine aw_heq q7.symm ?_
  obtain ⟨h8, q8⟩ : ∃ y9, y9 = hset h7 b (.inr (5, [.ref (b + 1), .ref (b + 2), .ref (b + 3), .ref (b + 4), .null, .int 0])) := ⟨_, rfl⟩
  have C8 : HC h8 (b + 5) := by rw [q8]; exact HC.set C7 (sc_r (by omega) (sc_r (by omega) (sc_r (by omega) (sc_r (by omega) (sc_0 (sc_i sc_nil))))))
  have o8 : ∀ i, i < b → h8 i = h i := fun i hi => by rw [q8]; exact (hset_n (by omega)).trans (o7 i hi)
  have e1_8 : h8 (b + 1) = .inl (0, 12, .inl (fun _ => 0)) := by rw [q8]; exact hset_q (by omega) e1_7
  have e2_8 : h8 (b + 2) = .inl (0, 12, .inl (fun _ => 0)) := by rw [q8]; exact hset_q (by omega) e2_7
  have e3_8 : h8 (b + 3) = .inl (0, 12, .inl (fun _ => 0)) := by rw [q8]; exact hset_q (by omega) e3_7
  have e4_8 : h8 (b + 4) = .inl (0, 12, .inl (fun _ => 0)) := by rw [q8]; exact hset_q (by omega) e4_7
  have e0_8 : h8 b = .inr (5, [.ref (b + 1), .ref (b + 2), .ref (b + 3), .ref (b + 4), .null, .int 0]) := by rw [q8]; exact hset_s
  refine aw_put fp_X5_21_i dX5_init_33 e0_7 (by omega) (ble' rfl) (fun _ => ⟨rfl, rfl⟩) q8.symm ?_
  refine aw_aload_n dX5_init_36 rfl ?_
  refine aw_bipush (v := 12) dX5_init_37 (by decide) ?_
  refine awn_int (N := 12) (by decide) (by decide) (by decide) dX5_init_39 C8 (by omega) (lc_r (by omega) lc_nil) (sc_r (by omega) sc_nil) (by decide) (by decide) ?_
  obtain ⟨h9, q9⟩ : ∃ y9, y9 = hset h8 (b + 5) (.inl (0, 12, .inl (fun _ => 0))) := ⟨_, rfl⟩
  have C9 : HC h9 (b + 6) := by rw [q9]; exact HC.new C8 trivial
  have o9 : ∀ i, i < b → h9 i = h i := fun i hi => by rw [q9]; exact (hset_n (by omega)).trans (o8 i hi)
  have e0_9 : h9 b = .inr (5, [.ref (b + 1), .ref (b + 2), .ref (b + 3), .ref (b + 4), .null, .int 0]) := by rw [q9]; exact hset_q (by omega) e0_8
  have e1_9 : h9 (b + 1) = .inl (0, 12, .inl (fun _ => 0)) := by rw [q9]; exact hset_q (by omega) e1_8
  have e2_9 : h9 (b + 2) = .inl (0, 12, .inl (fun _ => 0)) := by rw [q9]; exact hset_q (by omega) e2_8
  have e3_9 : h9 (b + 3) = .inl (0, 12, .inl (fun _ => 0)) := by rw [q9]; exact hset_q (by omega) e3_8
  have e4_9 : h9 (b + 4) = .inl (0, 12, .inl (fun _ => 0)) := by rw [q9]; exact hset_q (by omega) e4_8
  have e5_9 : h9 (b + 5) = .inl (0, 12, .inl (fun _ => 0)) := by rw [q9]; exact hset_s
  refine aw_heq q9.symm ?_
  obtain ⟨h10, q10⟩ : ∃ y9, y9 = hset h9 b (.inr (5, [.ref (b + 1), .ref (b + 2), .ref (b + 3), .ref (b + 4), .ref (b + 5), .int 0])) := ⟨_, rfl⟩
  have C10 : HC h10 (b + 6) := by rw [q10]; exact HC.set C9 (sc_r (by omega) (sc_r (by omega) (sc_r (by omega) (sc_r (by omega) (sc_r (by omega) (sc_i sc_nil))))))
  have o10 : ∀ i, i < b → h10 i = h i := fun i hi => by rw [q10]; exact (hset_n (by omega)).trans (o9 i hi)
  have e1_10 : h10 (b + 1) = .inl (0, 12, .inl (fun _ => 0)) := by rw [q10]; exact hset_q (by omega) e1_9
  have e2_10 : h10 (b + 2) = .inl (0, 12, .inl (fun _ => 0)) := by rw [q10]; exact hset_q (by omega) e2_9
  have e3_10 : h10 (b + 3) = .inl (0, 12, .inl (fun _ => 0)) := by rw [q10]; exact hset_q (by omega) e3_9
  have e4_10 : h10 (b + 4) = .inl (0, 12, .inl (fun _ => 0)) := by rw [q10]; exact hset_q (by omega) e4_9
  have e5_10 : h10 (b + 5) = .inl (0, 12, .inl (fun _ => 0)) := by rw [q10]; exact hset_q (by omega) e5_9
  have e0_10 : h10 b = .inr (5, [.ref (b + 1), .ref (b + 2), .ref (b + 3), .ref (b + 4), .ref (b + 5), .int 0]) := by rw [q10]; exact hset_s
  refine aw_put fp_X5_24_i dX5_init_41 e0_9 (by omega) (ble' rfl) (fun _ => ⟨rfl, rfl⟩) q10.symm ?_
  refine aw_aload_n dX5_init_44 rfl ?_
  refine aw_iconst (v := 0) dX5_init_45 (by decide) ?_
  obtain ⟨h11, q11⟩ : ∃ y9, y9 = hset h10 b (.inr (5, [.ref (b + 1), .ref (b + 2), .ref (b + 3), .ref (b + 4), .ref (b + 5), .int 0])) := ⟨_, rfl⟩
  have C11 : HC h11 (b + 6) := by rw [q11]; exact HC.set C10 (sc_r (by omega) (sc_r (by omega) (sc_r (by omega) (sc_r (by omega) (sc_r (by omega) (sc_i sc_nil))))))
  have o11 : ∀ i, i < b → h11 i = h i := fun i hi => by rw [q11]; exact (hset_n (by omega)).trans (o10 i hi)
  have e1_11 : h11 (b + 1) = .inl (0, 12, .inl (fun _ => 0)) := by rw [q11]; exact hset_q (by omega) e1_10
  have e2_11 : h11 (b + 2) = .inl (0, 12, .inl (fun _ => 0)) := by rw [q11]; exact hset_q (by omega) e2_10
  have e3_11 : h11 (b + 3) = .inl (0, 12, .inl (fun _ => 0)) := by rw [q11]; exact hset_q (by omega) e3_10
  have e4_11 : h11 (b + 4) = .inl (0, 12, .inl (fun _ => 0)) := by rw [q11]; exact hset_q (by omega) e4_10
  have e5_11 : h11 (b + 5) = .inl (0, 12, .inl (fun _ => 0)) := by rw [q11]; exact hset_q (by omega) e5_10
  have e0_11 : h11 b = .inr (5, [.ref (b + 1), .ref (b + 2), .ref (b + 3), .ref (b + 4), .ref (b + 5), .int 0]) := by rw [q11]; exact hset_s
  refine aw_put fp_X5_27_i dX5_init_46 e0_10 (by omega) (ble' rfl) (fun _ => ⟨rfl, rfl⟩) q11.symm ?_
  refine aw_vret rfl dX5_init_49 (ble' rfl) (ble' rfl) ?_
  exact ⟨rfl, rfl, C11, o11, e0_11, e1_11, e2_11, e3_11, e4_11, e5_11⟩

def At_X0 (h : Nat → AE) (b : Nat) : Prop := h b = .inr (0, [.ref (b + 1), .ref (b + 2), .ref (b + 3), .ref (b + 4), .ref (b + 5), .ref (b + 6), .int 0]) ∧ h (b + 1) = .inl (0, 60, .inl (fun _ => 0)) ∧ h (b + 2) = .inl (0, 60, .inl (fun _ => 0)) ∧ h (b + 3) = .inl (0, 60, .inl (fun _ => 0)) ∧ h (b + 4) = .inl (0, 60, .inl (fun _ => 0)) ∧ h (b + 5) = .inl (0, 60, .inl (fun _ => 0)) ∧ h (b + 6) = .inl (0, 60, .inl (fun _ => 0))
theorem At_X0_tr  {h h' : Nat → AE} {b : Nat} (q : At_X0 h b) (o : ∀ i, b ≤ i → i < b + 7 → h' i = h i) : At_X0 h' b := ⟨(o _ (by omega) (by omega)).trans q.1, (o _ (by omega) (by omega)).trans q.2.1, (o _ (by omega) (by omega)).trans q.2.2.1, (o _ (by omega) (by omega)).trans q.2.2.2.1, (o _ (by omega) (by omega)).trans q.2.2.2.2.1, (o _ (by omega) (by omega)).trans q.2.2.2.2.2.1, (o _ (by omega) (by omega)).trans q.2.2.2.2.2.2⟩
def IP_X0 (b : Nat) (h : Nat → AE) : APost := fun o h' n' => o = .inl none ∧ n' = b + 7 ∧ HC h' (b + 7) ∧ (∀ i, i < b → h' i = h i) ∧ At_X0 h' b
set_option maxRecDepth 100000 in
set_option maxHeartbeats 4000000 in
theorem c_X0_init {h : Nat → AE} {b : Nat} (hb : b < 850000)  (e0_0 : h b = .inr (0, [.null, .null, .null, .null, .null, .null, .int 0])) (C0 : HC h (b + 1)) : AMet tX0_init yX0_init [Cond.code yX0_init cX0_init 1 none] [.ref b] h (b + 1) (IP_X0 b h) := by
  have o0 : ∀ i, i < b → h i = h i := fun _ _ => rfl
  refine am_of (lo := [_]) (by decide) rfl (fun _ => rfl) rfl rfl rfl ?_
  refine aw_aload_n dX0_init_0 rfl ?_
  refine aw_objI kj_X0_3 dX0_init_1 ⟨by decide, by decide⟩ ?_
  refine aw_aload_n dX0_init_4 rfl ?_
  refine aw_bipush (v := 60) dX0_init_5 (by decide) ?_
  refine awn_int (N := 60) (by decide) (by decide) (by decide) dX0_init_7 C0 (by omega) (lc_r (by omega) lc_nil) (sc_r (by omega) sc_nil) (by decide) (by decide) ?_
  obtain ⟨h1, q1⟩ : ∃ y9, y9 = hset h (b + 1) (.inl (0, 60, .inl (fun _ => 0))) := ⟨_, rfl⟩
  have C1 : HC h1 (b + 2) := by rw [q1]; exact HC.new C0 trivial
  have o1 : ∀ i, i < b → h1 i = h i := fun i hi => by rw [q1]; exact (hset_n (by omega)).trans (o0 i hi)
  have e0_1 : h1 b = .inr (0, [.null, .null, .null, .null, .null, .null, .int 0]) := by rw [q1]; exact hset_q (by omega) e0_0
  have e1_1 : h1 (b + 1) = .inl (0, 60, .inl (fun _ => 0)) := by rw [q1]; exact hset_s
  refine aw_heq q1.symm ?_
  obtain ⟨h2, q2⟩ : ∃ y9, y9 = hset h1 b (.inr (0, [.ref (b + 1), .null, .null, .null, .null, .null, .int 0])) := ⟨_, rfl⟩
  have C2 : HC h2 (b + 2) := by rw [q2]; exact HC.set C1 (sc_r (by omega) (sc_0 (sc_0 (sc_0 (sc_0 (sc_0 (sc_i sc_nil)))))))
  have o2 : ∀ i, i < b → h2 i = h i := fun i hi => by rw [q2]; exact (hset_n (by omega)).trans (o1 i hi)
  have e1_2 : h2 (b + 1) = .inl (0, 60, .inl (fun _ => 0)) := by rw [q2]; exact hset_q (by omega) e1_1
  have e0_2 : h2 b = .inr (0, [.ref (b + 1), .null, .null, .null, .null, .null, .int 0]) := by rw [q2]; exact hset_s
  refine aw_put fp_X0_9_i dX0_init_9 e0_1 (by omega) (ble' rfl) (fun _ => ⟨rfl, rfl⟩) q2.symm ?_
  refine aw_aload_n dX0_init_12 rfl ?_
  refine aw_bipush (v := 60) dX0_init_13 (by decide) ?_
  refine awn_int (N := 60) (by decide) (by decide) (by decide) dX0_init_15 C2 (by omega) (lc_r (by omega) lc_nil) (sc_r (by omega) sc_nil) (by decide) (by decide) ?_
  obtain ⟨h3, q3⟩ : ∃ y9, y9 = hset h2 (b + 2) (.inl (0, 60, .inl (fun _ => 0))) := ⟨_, rfl⟩
  have C3 : HC h3 (b + 3) := by rw [q3]; exact HC.new C2 trivial
  have o3 : ∀ i, i < b → h3 i = h i := fun i hi => by rw [q3]; exact (hset_n (by omega)).trans (o2 i hi)
  have e0_3 : h3 b = .inr (0, [.ref (b + 1), .null, .null, .null, .null, .null, .int 0]) := by rw [q3]; exact hset_q (by omega) e0_2
  have e1_3 : h3 (b + 1) = .inl (0, 60, .inl (fun _ => 0)) := by rw [q3]; exact hset_q (by omega) e1_2
  have e2_3 : h3 (b + 2) = .inl (0, 60, .inl (fun _ => 0)) := by rw [q3]; exact hset_s
  refine aw_heq q3.symm ?_
  obtain ⟨h4, q4⟩ : ∃ y9, y9 = hset h3 b (.inr (0, [.ref (b + 1), .ref (b + 2), .null, .null, .null, .null, .int 0])) := ⟨_, rfl⟩
  have C4 : HC h4 (b + 3) := by rw [q4]; exact HC.set C3 (sc_r (by omega) (sc_r (by omega) (sc_0 (sc_0 (sc_0 (sc_0 (sc_i sc_nil)))))))
  have o4 : ∀ i, i < b → h4 i = h i := fun i hi => by rw [q4]; exact (hset_n (by omega)).trans (o3 i hi)
  have e1_4 : h4 (b + 1) = .inl (0, 60, .inl (fun _ => 0)) := by rw [q4]; exact hset_q (by omega) e1_3
  have e2_4 : h4 (b + 2) = .inl (0, 60, .inl (fun _ => 0)) := by rw [q4]; exact hset_q (by omega) e2_3
  have e0_4 : h4 b = .inr (0, [.ref (b + 1), .ref (b + 2), .null, .null, .null, .null, .int 0]) := by rw [q4]; exact hset_s
  refine aw_put fp_X0_15_i dX0_init_17 e0_3 (by omega) (ble' rfl) (fun _ => ⟨rfl, rfl⟩) q4.symm ?_
  refine aw_aload_n dX0_init_20 rfl ?_
  refine aw_bipush (v := 60) dX0_init_21 (by decide) ?_
  refine awn_int (N := 60) (by decide) (by decide) (by decide) dX0_init_23 C4 (by omega) (lc_r (by omega) lc_nil) (sc_r (by omega) sc_nil) (by decide) (by decide) ?_
  obtain ⟨h5, q5⟩ : ∃ y9, y9 = hset h4 (b + 3) (.inl (0, 60, .inl (fun _ => 0))) := ⟨_, rfl⟩
  have C5 : HC h5 (b + 4) := by rw [q5]; exact HC.new C4 trivial
  have o5 : ∀ i, i < b → h5 i = h i := fun i hi => by rw [q5]; exact (hset_n (by omega)).trans (o4 i hi)
  have e0_5 : h5 b = .inr (0, [.ref (b + 1), .ref (b + 2), .null, .null, .null, .null, .int 0]) := by rw [q5]; exact hset_q (by omega) e0_4
  have e1_5 : h5 (b + 1) = .inl (0, 60, .inl (fun _ => 0)) := by rw [q5]; exact hset_q (by omega) e1_4
  have e2_5 : h5 (b + 2) = .inl (0, 60, .inl (fun _ => 0)) := by rw [q5]; exact hset_q (by omega) e2_4
  have e3_5 : h5 (b + 3) = .inl (0, 60, .inl (fun _ => 0)) := by rw [q5]; exact hset_s
  refine aw_heq q5.symm ?_
  obtain ⟨h6, q6⟩ : ∃ y9, y9 = hset h5 b (.inr (0, [.ref (b + 1), .ref (b + 2), .ref (b + 3), .null, .null, .null, .int 0])) := ⟨_, rfl⟩
  have C6 : HC h6 (b + 4) := by rw [q6]; exact HC.set C5 (sc_r (by omega) (sc_r (by omega) (sc_r (by omega) (sc_0 (sc_0 (sc_0 (sc_i sc_nil)))))))
  have o6 : ∀ i, i < b → h6 i = h i := fun i hi => by rw [q6]; exact (hset_n (by omega)).trans (o5 i hi)
  have e1_6 : h6 (b + 1) = .inl (0, 60, .inl (fun _ => 0)) := by rw [q6]; exact hset_q (by omega) e1_5
  have e2_6 : h6 (b + 2) = .inl (0, 60, .inl (fun _ => 0)) := by rw [q6]; exact hset_q (by omega) e2_5
  have e3_6 : h6 (b + 3) = .inl (0, 60, .inl (fun _ => 0)) := by rw [q6]; exact hset_q (by omega) e3_5
  have e0_6 : h6 b = .inr (0, [.ref (b + 1), .ref (b + 2), .ref (b + 3), .null, .null, .null, .int 0]) := by rw [q6]; exact hset_s
  refine aw_put fp_X0_18_i dX0_init_25 e0_5 (by omega) (ble' rfl) (fun _ => ⟨rfl, rfl⟩) q6.symm ?_
  refine aw_aload_n dX0_init_28 rfl ?_
  refine aw_bipush (v := 60) dX0_init_29 (by decide) ?_
  refine awn_int (N := 60) (by decide) (by decide) (by decide) dX0_init_31 C6 (by omega) (lc_r (by omega) lc_nil) (sc_r (by omega) sc_nil) (by decide) (by decide) ?_
  obtain ⟨h7, q7⟩ : ∃ y9, y9 = hset h6 (b + 4) (.inl (0, 60, .inl (fun _ => 0))) := ⟨_, rfl⟩
  have C7 : HC h7 (b + 5) := by rw [q7]; exact HC.new C6 trivial
  have o7 : ∀ i, i < b → h7 i = h i := fun i hi => by rw [q7]; exact (hset_n (by omega)).trans (o6 i hi)
  have e0_7 : h7 b = .inr (0, [.ref (b + 1), .ref (b + 2), .ref (b + 3), .null, .null, .null, .int 0]) := by rw [q7]; exact hset_q (by omega) e0_6
  have e1_7 : h7 (b + 1) = .inl (0, 60, .inl (fun _ => 0)) := by rw [q7]; exact hset_q (by omega) e1_6
  have e2_7 : h7 (b + 2) = .inl (0, 60, .inl (fun _ => 0)) := by rw [q7]; exact hset_q (by omega) e2_6
  have e3_7 : h7 (b + 3) = .inl (0, 60, .inl (fun _ => 0)) := by rw [q7]; exact hset_q (by omega) e3_6
  have e4_7 : h7 (b + 4) = .inl (0, 60, .inl (fun _ => 0)) := by rw [q7]; exact hset_s
  refine aw_heq q7.symm ?_
  obtain ⟨h8, q8⟩ : ∃ y9, y9 = hset h7 b (.inr (0, [.ref (b + 1), .ref (b + 2), .ref (b + 3), .ref (b + 4), .null, .null, .int 0])) := ⟨_, rfl⟩
  have C8 : HC h8 (b + 5) := by rw [q8]; exact HC.set C7 (sc_r (by omega) (sc_r (by omega) (sc_r (by omega) (sc_r (by omega) (sc_0 (sc_0 (sc_i sc_nil)))))))
  have o8 : ∀ i, i < b → h8 i = h i := fun i hi => by rw [q8]; exact (hset_n (by omega)).trans (o7 i hi)
  have e1_8 : h8 (b + 1) = .inl (0, 60, .inl (fun _ => 0)) := by rw [q8]; exact hset_q (by omega) e1_7
  have e2_8 : h8 (b + 2) = .inl (0, 60, .inl (fun _ => 0)) := by rw [q8]; exact hset_q (by omega) e2_7
  have e3_8 : h8 (b + 3) = .inl (0, 60, .inl (fun _ => 0)) := by rw [q8]; exact hset_q (by omega) e3_7
  have e4_8 : h8 (b + 4) = .inl (0, 60, .inl (fun _ => 0)) := by rw [q8]; exact hset_q (by omega) e4_7
  have e0_8 : h8 b = .inr (0, [.ref (b + 1), .ref (b + 2), .ref (b + 3), .ref (b + 4), .null, .null, .int 0]) := by rw [q8]; exact hset_s
  refine aw_put fp_X0_21_i dX0_init_33 e0_7 (by omega) (ble' rfl) (fun _ => ⟨rfl, rfl⟩) q8.symm ?_
  refine aw_aload_n dX0_init_36 rfl ?_
  refine aw_bipush (v := 60) dX0_init_37 (by decide) ?_
  refine awn_int (N := 60) (by decide) (by decide) (by decide) dX0_init_39 C8 (by omega) (lc_r (by omega) lc_nil) (sc_r (by omega) sc_nil) (by decide) (by decide) ?_
  obtain ⟨h9, q9⟩ : ∃ y9, y9 = hset h8 (b + 5) (.inl (0, 60, .inl (fun _ => 0))) := ⟨_, rfl⟩
  have C9 : HC h9 (b + 6) := by rw [q9]; exact HC.new C8 trivial
  have o9 : ∀ i, i < b → h9 i = h i := fun i hi => by rw [q9]; exact (hset_n (by omega)).trans (o8 i hi)
  have e0_9 : h9 b = .inr (0, [.ref (b + 1), .ref (b + 2), .ref (b + 3), .ref (b + 4), .null, .null, .int 0]) := by rw [q9]; exact hset_q (by omega) e0_8
  have e1_9 : h9 (b + 1) = .inl (0, 60, .inl (fun _ => 0)) := by rw [q9]; exact hset_q (by omega) e1_8
  have e2_9 : h9 (b + 2) = .inl (0, 60, .inl (fun _ => 0)) := by rw [q9]; exact hset_q (by omega) e2_8
  have e3_9 : h9 (b + 3) = .inl (0, 60, .inl (fun _ => 0)) := by rw [q9]; exact hset_q (by omega) e3_8
  have e4_9 : h9 (b + 4) = .inl (0, 60, .inl (fun _ => 0)) := by rw [q9]; exact hset_q (by omega) e4_8
  have e5_9 : h9 (b + 5) = .inl (0, 60, .inl (fun _ => 0)) := by rw [q9]; exact hset_s
  refine aw_heq q9.symm ?_
  obtain ⟨h10, q10⟩ : ∃ y9, y9 = hset h9 b (.inr (0, [.ref (b + 1), .ref (b + 2), .ref (b + 3), .ref (b + 4), .ref (b + 5), .null, .int 0])) := ⟨_, rfl⟩
  have C10 : HC h10 (b + 6) := by rw [q10]; exact HC.set C9 (sc_r (by omega) (sc_r (by omega) (sc_r (by omega) (sc_r (by omega) (sc_r (by omega) (sc_0 (sc_i sc_nil)))))))
  have o10 : ∀ i, i < b → h10 i = h i := fun i hi => by rw [q10]; exact (hset_n (by omega)).trans (o9 i hi)
  have e1_10 : h10 (b + 1) = .inl (0, 60, .inl (fun _ => 0)) := by rw [q10]; exact hset_q (by omega) e1_9
  have e2_10 : h10 (b + 2) = .inl (0, 60, .inl (fun _ => 0)) := by rw [q10]; exact hset_q (by omega) e2_9
  have e3_10 : h10 (b + 3) = .inl (0, 60, .inl (fun _ => 0)) := by rw [q10]; exact hset_q (by omega) e3_9
  have e4_10 : h10 (b + 4) = .inl (0, 60, .inl (fun _ => 0)) := by rw [q10]; exact hset_q (by omega) e4_9
  have e5_10 : h10 (b + 5) = .inl (0, 60, .inl (fun _ => 0)) := by rw [q10]; exact hset_q (by omega) e5_9
  have e0_10 : h10 b = .inr (0, [.ref (b + 1), .ref (b + 2), .ref (b + 3), .ref (b + 4), .ref (b + 5), .null, .int 0]) := by rw [q10]; exact hset_s
  refine aw_put fp_X0_24_i dX0_init_41 e0_9 (by omega) (ble' rfl) (fun _ => ⟨rfl, rfl⟩) q10.symm ?_
  refine aw_aload_n dX0_init_44 rfl ?_
  refine aw_bipush (v := 60) dX0_init_45 (by decide) ?_
  refine awn_int (N := 60) (by decide) (by decide) (by decide) dX0_init_47 C10 (by omega) (lc_r (by omega) lc_nil) (sc_r (by omega) sc_nil) (by decide) (by decide) ?_
  obtain ⟨h11, q11⟩ : ∃ y9, y9 = hset h10 (b + 6) (.inl (0, 60, .inl (fun _ => 0))) := ⟨_, rfl⟩
  have C11 : HC h11 (b + 7) := by rw [q11]; exact HC.new C10 trivial
  have o11 : ∀ i, i < b → h11 i = h i := fun i hi => by rw [q11]; exact (hset_n (by omega)).trans (o10 i hi)
  have e0_11 : h11 b = .inr (0, [.ref (b + 1), .ref (b + 2), .ref (b + 3), .ref (b + 4), .ref (b + 5), .null, .int 0]) := by rw [q11]; exact hset_q (by omega) e0_10
  have e1_11 : h11 (b + 1) = .inl (0, 60, .inl (fun _ => 0)) := by rw [q11]; exact hset_q (by omega) e1_10
  have e2_11 : h11 (b + 2) = .inl (0, 60, .inl (fun _ => 0)) := by rw [q11]; exact hset_q (by omega) e2_10
  have e3_11 : h11 (b + 3) = .inl (0, 60, .inl (fun _ => 0)) := by rw [q11]; exact hset_q (by omega) e3_10
  have e4_11 : h11 (b + 4) = .inl (0, 60, .inl (fun _ => 0)) := by rw [q11]; exact hset_q (by omega) e4_10
  have e5_11 : h11 (b + 5) = .inl (0, 60, .inl (fun _ => 0)) := by rw [q11]; exact hset_q (by omega) e5_10
  have e6_11 : h11 (b + 6) = .inl (0, 60, .inl (fun _ => 0)) := by rw [q11]; exact hset_s
  refine aw_heq q11.symm ?_
  obtain ⟨h12, q12⟩ : ∃ y9, y9 = hset h11 b (.inr (0, [.ref (b + 1), .ref (b + 2), .ref (b + 3), .ref (b + 4), .ref (b + 5), .ref (b + 6), .int 0])) := ⟨_, rfl⟩
  have C12 : HC h12 (b + 7) := by rw [q12]; exact HC.set C11 (sc_r (by omega) (sc_r (by omega) (sc_r (by omega) (sc_r (by omega) (sc_r (by omega) (sc_r (by omega) (sc_i sc_nil)))))))
  have o12 : ∀ i, i < b → h12 i = h i := fun i hi => by rw [q12]; exact (hset_n (by omega)).trans (o11 i hi)
  have e1_12 : h12 (b + 1) = .inl (0, 60, .inl (fun _ => 0)) := by rw [q12]; exact hset_q (by omega) e1_11
  have e2_12 : h12 (b + 2) = .inl (0, 60, .inl (fun _ => 0)) := by rw [q12]; exact hset_q (by omega) e2_11
  have e3_12 : h12 (b + 3) = .inl (0, 60, .inl (fun _ => 0)) := by rw [q12]; exact hset_q (by omega) e3_11
  have e4_12 : h12 (b + 4) = .inl (0, 60, .inl (fun _ => 0)) := by rw [q12]; exact hset_q (by omega) e4_11
  have e5_12 : h12 (b + 5) = .inl (0, 60, .inl (fun _ => 0)) := by rw [q12]; exact hset_q (by omega) e5_11
  have e6_12 : h12 (b + 6) = .inl (0, 60, .inl (fun _ => 0)) := by rw [q12]; exact hset_q (by omega) e6_11
  have e0_12 : h12 b = .inr (0, [.ref (b + 1), .ref (b + 2), .ref (b + 3), .ref (b + 4), .ref (b + 5), .ref (b + 6), .int 0]) := by rw [q12]; exact hset_s
  refine aw_put fp_X0_27_i dX0_init_49 e0_11 (by omega) (ble' rfl) (fun _ => ⟨rfl, rfl⟩) q12.symm ?_
  refine aw_aload_n dX0_init_52 rfl ?_
  refine aw_iconst (v := 0) dX0_init_53 (by decide) ?_
  obtain ⟨h13, q13⟩ : ∃ y9, y9 = hset h12 b (.inr (0, [.ref (b + 1), .ref (b + 2), .ref (b + 3), .ref (b + 4), .ref (b + 5), .ref (b + 6), .int 0])) := ⟨_, rfl⟩
  have C13 : HC h13 (b + 7) := by rw [q13]; exact HC.set C12 (sc_r (by omega) (sc_r (by omega) (sc_r (by omega) (sc_r (by omega) (sc_r (by omega) (sc_r (by omega) (sc_i sc_nil)))))))
  have o13 : ∀ i, i < b → h13 i = h i := fun i hi => by rw [q13]; exact (hset_n (by omega)).trans (o12 i hi)
  have e1_13 : h13 (b + 1) = .inl (0, 60, .inl (fun _ => 0)) := by rw [q13]; exact hset_q (by omega) e1_12
  have e2_13 : h13 (b + 2) = .inl (0, 60, .inl (fun _ => 0)) := by rw [q13]; exact hset_q (by omega) e2_12
  have e3_13 : h13 (b + 3) = .inl (0, 60, .inl (fun _ => 0)) := by rw [q13]; exact hset_q (by omega) e3_12
  have e4_13 : h13 (b + 4) = .inl (0, 60, .inl (fun _ => 0)) := by rw [q13]; exact hset_q (by omega) e4_12
  have e5_13 : h13 (b + 5) = .inl (0, 60, .inl (fun _ => 0)) := by rw [q13]; exact hset_q (by omega) e5_12
  have e6_13 : h13 (b + 6) = .inl (0, 60, .inl (fun _ => 0)) := by rw [q13]; exact hset_q (by omega) e6_12
  have e0_13 : h13 b = .inr (0, [.ref (b + 1), .ref (b + 2), .ref (b + 3), .ref (b + 4), .ref (b + 5), .ref (b + 6), .int 0]) := by rw [q13]; exact hset_s
  refine aw_put fp_X0_30_i dX0_init_54 e0_12 (by omega) (ble' rfl) (fun _ => ⟨rfl, rfl⟩) q13.symm ?_
  refine aw_vret rfl dX0_init_57 (ble' rfl) (ble' rfl) ?_
  exact ⟨rfl, rfl, C13, o13, e0_13, e1_13, e2_13, e3_13, e4_13, e5_13, e6_13⟩

def At_X4 (h : Nat → AE) (b : Nat) : Prop := h b = .inr (4, [.ref (b + 1), .ref (b + 2), .ref (b + 3), .ref (b + 4), .ref (b + 5), .int 0]) ∧ h (b + 1) = .inl (0, 20, .inl (fun _ => 0)) ∧ h (b + 2) = .inl (0, 20, .inl (fun _ => 0)) ∧ h (b + 3) = .inl (0, 20, .inl (fun _ => 0)) ∧ h (b + 4) = .inl (0, 20, .inl (fun _ => 0)) ∧ h (b + 5) = .inl (0, 20, .inl (fun _ => 0))
theorem At_X4_tr  {h h' : Nat → AE} {b : Nat} (q : At_X4 h b) (o : ∀ i, b ≤ i → i < b + 6 → h' i = h i) : At_X4 h' b := ⟨(o _ (by omega) (by omega)).trans q.1, (o _ (by omega) (by omega)).trans q.2.1, (o _ (by omega) (by omega)).trans q.2.2.1, (o _ (by omega) (by omega)).trans q.2.2.2.1, (o _ (by omega) (by omega)).trans q.2.2.2.2.1, (o _ (by omega) (by omega)).trans q.2.2.2.2.2⟩
def IP_X4 (b : Nat) (h : Nat → AE) : APost := fun o h' n' => o = .inl none ∧ n' = b + 6 ∧ HC h' (b + 6) ∧ (∀ i, i < b → h' i = h i) ∧ At_X4 h' b
set_option maxRecDepth 100000 in
set_option maxHeartbeats 4000000 in
theorem c_X4_init {h : Nat → AE} {b : Nat} (hb : b < 850000)  (e0_0 : h b = .inr (4, [.null, .null, .null, .null, .null, .int 0])) (C0 : HC h (b + 1)) : AMet tX4_init yX4_init [Cond.code yX4_init cX4_init 1 none] [.ref b] h (b + 1) (IP_X4 b h) := by
  have o0 : ∀ i, i < b → h i = h i := fun _ _ => rfl
  refine am_of (lo := [_]) (by decide) rfl (fun _ => rfl) rfl rfl rfl ?_
  refine aw_aload_n dX4_init_0 rfl ?_
  refine aw_objI kj_X4_3 dX4_init_1 ⟨by decide, by decide⟩ ?_
  refine aw_aload_n dX4_init_4 rfl ?_
  refine aw_bipush (v := 20) dX4_init_5 (by decide) ?_
  refine awn_int (N := 20) (by decide) (by decide) (by decide) dX4_init_7 C0 (by omega) (lc_r (by omega) lc_nil) (sc_r (by omega) sc_nil) (by decide) (by decide) ?_
  obtain ⟨h1, q1⟩ : ∃ y9, y9 = hset h (b + 1) (.inl (0, 20, .inl (fun _ => 0))) := ⟨_, rfl⟩
  have C1 : HC h1 (b + 2) := by rw [q1]; exact HC.new C0 trivial
  have o1 : ∀ i, i < b → h1 i = h i := fun i hi => by rw [q1]; exact (hset_n (by omega)).trans (o0 i hi)
  have e0_1 : h1 b = .inr (4, [.null, .null, .null, .null, .null, .int 0]) := by rw [q1]; exact hset_q (by omega) e0_0
  have e1_1 : h1 (b + 1) = .inl (0, 20, .inl (fun _ => 0)) := by rw [q1]; exact hset_s
  refine aw_heq q1.symm ?_
  obtain ⟨h2, q2⟩ : ∃ y9, y9 = hset h1 b (.inr (4, [.ref (b + 1), .null, .null, .null, .null, .int 0])) := ⟨_, rfl⟩
  have C2 : HC h2 (b + 2) := by rw [q2]; exact HC.set C1 (sc_r (by omega) (sc_0 (sc_0 (sc_0 (sc_0 (sc_i sc_nil))))))
  have o2 : ∀ i, i < b → h2 i = h i := fun i hi => by rw [q2]; exact (hset_n (by omega)).trans (o1 i hi)
  have e1_2 : h2 (b + 1) = .inl (0, 20, .inl (fun _ => 0)) := by rw [q2]; exact hset_q (by omega) e1_1
  have e0_2 : h2 b = .inr (4, [.ref (b + 1), .null, .null, .null, .null, .int 0]) := by rw [q2]; exact hset_s
  refine aw_put fp_X4_9_i dX4_init_9 e0_1 (by omega) (ble' rfl) (fun _ => ⟨rfl, rfl⟩) q2.symm ?_
  refine aw_aload_n dX4_init_12 rfl ?_
  refine aw_bipush (v := 20) dX4_init_13 (by decide) ?_
  refine awn_int (N := 20) (by decide) (by decide) (by decide) dX4_init_15 C2 (by omega) (lc_r (by omega) lc_nil) (sc_r (by omega) sc_nil) (by decide) (by decide) ?_
  obtain ⟨h3, q3⟩ : ∃ y9, y9 = hset h2 (b + 2) (.inl (0, 20, .inl (fun _ => 0))) := ⟨_, rfl⟩
  have C3 : HC h3 (b + 3) := by rw [q3]; exact HC.new C2 trivial
  have o3 : ∀ i, i < b → h3 i = h i := fun i hi => by rw [q3]; exact (hset_n (by omega)).trans (o2 i hi)
  have e0_3 : h3 b = .inr (4, [.ref (b + 1), .null, .null, .null, .null, .int 0]) := by rw [q3]; exact hset_q (by omega) e0_2
  have e1_3 : h3 (b + 1) = .inl (0, 20, .inl (fun _ => 0)) := by rw [q3]; exact hset_q (by omega) e1_2
  have e2_3 : h3 (b + 2) = .inl (0, 20, .inl (fun _ => 0)) := by rw [q3]; exact hset_s
  refine aw_heq q3.symm ?_
  obtain ⟨h4, q4⟩ : ∃ y9, y9 = hset h3 b (.inr (4, [.ref (b + 1), .ref (b + 2), .null, .null, .null, .int 0])) := ⟨_, rfl⟩
  have C4 : HC h4 (b + 3) := by rw [q4]; exact HC.set C3 (sc_r (by omega) (sc_r (by omega) (sc_0 (sc_0 (sc_0 (sc_i sc_nil))))))
  have o4 : ∀ i, i < b → h4 i = h i := fun i hi => by rw [q4]; exact (hset_n (by omega)).trans (o3 i hi)
  have e1_4 : h4 (b + 1) = .inl (0, 20, .inl (fun _ => 0)) := by rw [q4]; exact hset_q (by omega) e1_3
  have e2_4 : h4 (b + 2) = .inl (0, 20, .inl (fun _ => 0)) := by rw [q4]; exact hset_q (by omega) e2_3
  have e0_4 : h4 b = .inr (4, [.ref (b + 1), .ref (b + 2), .null, .null, .null, .int 0]) := by rw [q4]; exact hset_s
  refine aw_put fp_X4_15_i dX4_init_17 e0_3 (by omega) (ble' rfl) (fun _ => ⟨rfl, rfl⟩) q4.symm ?_
  refine aw_aload_n dX4_init_20 rfl ?_
  refine aw_bipush (v := 20) dX4_init_21 (by decide) ?_
  refine awn_int (N := 20) (by decide) (by decide) (by decide) dX4_init_23 C4 (by omega) (lc_r (by omega) lc_nil) (sc_r (by omega) sc_nil) (by decide) (by decide) ?_
  obtain ⟨h5, q5⟩ : ∃ y9, y9 = hset h4 (b + 3) (.inl (0, 20, .inl (fun _ => 0))) := ⟨_, rfl⟩
  have C5 : HC h5 (b + 4) := by rw [q5]; exact HC.new C4 trivial
  have o5 : ∀ i, i < b → h5 i = h i := fun i hi => by rw [q5]; exact (hset_n (by omega)).trans (o4 i hi)
  have e0_5 : h5 b = .inr (4, [.ref (b + 1), .ref (b + 2), .null, .null, .null, .int 0]) := by rw [q5]; exact hset_q (by omega) e0_4
  have e1_5 : h5 (b + 1) = .inl (0, 20, .inl (fun _ => 0)) := by rw [q5]; exact hset_q (by omega) e1_4
  have e2_5 : h5 (b + 2) = .inl (0, 20, .inl (fun _ => 0)) := by rw [q5]; exact hset_q (by omega) e2_4
  have e3_5 : h5 (b + 3) = .inl (0, 20, .inl (fun _ => 0)) := by rw [q5]; exact hset_s
  refine aw_heq q5.symm ?_
  obtain ⟨h6, q6⟩ : ∃ y9, y9 = hset h5 b (.inr (4, [.ref (b + 1), .ref (b + 2), .ref (b + 3), .null, .null, .int 0])) := ⟨_, rfl⟩
  have C6 : HC h6 (b + 4) := by rw [q6]; exact HC.set C5 (sc_r (by omega) (sc_r (by omega) (sc_r (by omega) (sc_0 (sc_0 (sc_i sc_nil))))))
  have o6 : ∀ i, i < b → h6 i = h i := fun i hi => by rw [q6]; exact (hset_n (by omega)).trans (o5 i hi)
  have e1_6 : h6 (b + 1) = .inl (0, 20, .inl (fun _ => 0)) := by rw [q6]; exact hset_q (by omega) e1_5
  have e2_6 : h6 (b + 2) = .inl (0, 20, .inl (fun _ => 0)) := by rw [q6]; exact hset_q (by omega) e2_5
  have e3_6 : h6 (b + 3) = .inl (0, 20, .inl (fun _ => 0)) := by rw [q6]; exact hset_q (by omega) e3_5
  have e0_6 : h6 b = .inr (4, [.ref (b + 1), .ref (b + 2), .ref (b + 3), .null, .null, .int 0]) := by rw [q6]; exact hset_s
  refine aw_put fp_X4_18_i dX4_init_25 e0_5 (by omega) (ble' rfl) (fun _ => ⟨rfl, rfl⟩) q6.symm ?_
  refine aw_aload_n dX4_init_28 rfl ?_
  refine aw_bipush (v := 20) dX4_init_29 (by decide) ?_
  refine awn_int (N := 20) (by decide) (by decide) (by decide) dX4_init_31 C6 (by omega) (lc_r (by omega) lc_nil) (sc_r (by omega) sc_nil) (by decide) (by decide) ?_
  obtain ⟨h7, q7⟩ : ∃ y9, y9 = hset h6 (b + 4) (.inl (0, 20, .inl (fun _ => 0))) := ⟨_, rfl⟩
  have C7 : HC h7 (b + 5) := by rw [q7]; exact HC.new C6 trivial
  have o7 : ∀ i, i < b → h7 i = h i := fun i hi => by rw [q7]; exact (hset_n (by omega)).trans (o6 i hi)
  have e0_7 : h7 b = .inr (4, [.ref (b + 1), .ref (b + 2), .ref (b + 3), .null, .null, .int 0]) := by rw [q7]; exact hset_q (by omega) e0_6
  have e1_7 : h7 (b + 1) = .inl (0, 20, .inl (fun _ => 0)) := by rw [q7]; exact hset_q (by omega) e1_6
  have e2_7 : h7 (b + 2) = .inl (0, 20, .inl (fun _ => 0)) := by rw [q7]; exact hset_q (by omega) e2_6
  have e3_7 : h7 (b + 3) = .inl (0, 20, .inl (fun _ => 0)) := by rw [q7]; exact hset_q (by omega) e3_6
  have e4_7 : h7 (b + 4) = .inl (0, 20, .inl (fun _ => 0)) := by rw [q7]; exact hset_s
  refine aw_heq q7.symm ?_
  obtain ⟨h8, q8⟩ : ∃ y9, y9 = hset h7 b (.inr (4, [.ref (b + 1), .ref (b + 2), .ref (b + 3), .ref (b + 4), .null, .int 0])) := ⟨_, rfl⟩
  have C8 : HC h8 (b + 5) := by rw [q8]; exact HC.set C7 (sc_r (by omega) (sc_r (by omega) (sc_r (by omega) (sc_r (by omega) (sc_0 (sc_i sc_nil))))))
  have o8 : ∀ i, i < b → h8 i = h i := fun i hi => by rw [q8]; exact (hset_n (by omega)).trans (o7 i hi)
  have e1_8 : h8 (b + 1) = .inl (0, 20, .inl (fun _ => 0)) := by rw [q8]; exact hset_q (by omega) e1_7
  have e2_8 : h8 (b + 2) = .inl (0, 20, .inl (fun _ => 0)) := by rw [q8]; exact hset_q (by omega) e2_7
  have e3_8 : h8 (b + 3) = .inl (0, 20, .inl (fun _ => 0)) := by rw [q8]; exact hset_q (by omega) e3_7
  have e4_8 : h8 (b + 4) = .inl (0, 20, .inl (fun _ => 0)) := by rw [q8]; exact hset_q (by omega) e4_7
  have e0_8 : h8 b = .inr (4, [.ref (b + 1), .ref (b + 2), .ref (b + 3), .ref (b + 4), .null, .int 0]) := by rw [q8]; exact hset_s
  refine aw_put fp_X4_21_i dX4_init_33 e0_7 (by omega) (ble' rfl) (fun _ => ⟨rfl, rfl⟩) q8.symm ?_
  refine aw_aload_n dX4_init_36 rfl ?_
  refine aw_bipush (v := 20) dX4_init_37 (by decide) ?_
  refine awn_int (N := 20) (by decide) (by decide) (by decide) dX4_init_39 C8 (by omega) (lc_r (by omega) lc_nil) (sc_r (by omega) sc_nil) (by decide) (by decide) ?_
  obtain ⟨h9, q9⟩ : ∃ y9, y9 = hset h8 (b + 5) (.inl (0, 20, .inl (fun _ => 0))) := ⟨_, rfl⟩
  have C9 : HC h9 (b + 6) := by rw [q9]; exact HC.new C8 trivial
  have o9 : ∀ i, i < b → h9 i = h i := fun i hi => by rw [q9]; exact (hset_n (by omega)).trans (o8 i hi)
  have e0_9 : h9 b = .inr (4, [.ref (b + 1), .ref (b + 2), .ref (b + 3), .ref (b + 4), .null, .int 0]) := by rw [q9]; exact hset_q (by omega) e0_8
  have e1_9 : h9 (b + 1) = .inl (0, 20, .inl (fun _ => 0)) := by rw [q9]; exact hset_q (by omega) e1_8
  have e2_9 : h9 (b + 2) = .inl (0, 20, .inl (fun _ => 0)) := by rw [q9]; exact hset_q (by omega) e2_8
  have e3_9 : h9 (b + 3) = .inl (0, 20, .inl (fun _ => 0)) := by rw [q9]; exact hset_q (by omega) e3_8
  have e4_9 : h9 (b + 4) = .inl (0, 20, .inl (fun _ => 0)) := by rw [q9]; exact hset_q (by omega) e4_8
  have e5_9 : h9 (b + 5) = .inl (0, 20, .inl (fun _ => 0)) := by rw [q9]; exact hset_s
  refine aw_heq q9.symm ?_
  obtain ⟨h10, q10⟩ : ∃ y9, y9 = hset h9 b (.inr (4, [.ref (b + 1), .ref (b + 2), .ref (b + 3), .ref (b + 4), .ref (b + 5), .int 0])) := ⟨_, rfl⟩
  have C10 : HC h10 (b + 6) := by rw [q10]; exact HC.set C9 (sc_r (by omega) (sc_r (by omega) (sc_r (by omega) (sc_r (by omega) (sc_r (by omega) (sc_i sc_nil))))))
  have o10 : ∀ i, i < b → h10 i = h i := fun i hi => by rw [q10]; exact (hset_n (by omega)).trans (o9 i hi)
  have e1_10 : h10 (b + 1) = .inl (0, 20, .inl (fun _ => 0)) := by rw [q10]; exact hset_q (by omega) e1_9
  have e2_10 : h10 (b + 2) = .inl (0, 20, .inl (fun _ => 0)) := by rw [q10]; exact hset_q (by omega) e2_9
  have e3_10 : h10 (b + 3) = .inl (0, 20, .inl (fun _ => 0)) := by rw [q10]; exact hset_q (by omega) e3_9
  have e4_10 : h10 (b + 4) = .inl (0, 20, .inl (fun _ => 0)) := by rw [q10]; exact hset_q (by omega) e4_9
  have e5_10 : h10 (b + 5) = .inl (0, 20, .inl (fun _ => 0)) := by rw [q10]; exact hset_q (by omega) e5_9
  have e0_10 : h10 b = .inr (4, [.ref (b + 1), .ref (b + 2), .ref (b + 3), .ref (b + 4), .ref (b + 5), .int 0]) := by rw [q10]; exact hset_s
  refine aw_put fp_X4_24_i dX4_init_41 e0_9 (by omega) (ble' rfl) (fun _ => ⟨rfl, rfl⟩) q10.symm ?_
  refine aw_aload_n dX4_init_44 rfl ?_
  refine aw_iconst (v := 0) dX4_init_45 (by decide) ?_
  obtain ⟨h11, q11⟩ : ∃ y9, y9 = hset h10 b (.inr (4, [.ref (b + 1), .ref (b + 2), .ref (b + 3), .ref (b + 4), .ref (b + 5), .int 0])) := ⟨_, rfl⟩
  have C11 : HC h11 (b + 6) := by rw [q11]; exact HC.set C10 (sc_r (by omega) (sc_r (by omega) (sc_r (by omega) (sc_r (by omega) (sc_r (by omega) (sc_i sc_nil))))))
  have o11 : ∀ i, i < b → h11 i = h i := fun i hi => by rw [q11]; exact (hset_n (by omega)).trans (o10 i hi)
  have e1_11 : h11 (b + 1) = .inl (0, 20, .inl (fun _ => 0)) := by rw [q11]; exact hset_q (by omega) e1_10
  have e2_11 : h11 (b + 2) = .inl (0, 20, .inl (fun _ => 0)) := by rw [q11]; exact hset_q (by omega) e2_10
  have e3_11 : h11 (b + 3) = .inl (0, 20, .inl (fun _ => 0)) := by rw [q11]; exact hset_q (by omega) e3_10
  have e4_11 : h11 (b + 4) = .inl (0, 20, .inl (fun _ => 0)) := by rw [q11]; exact hset_q (by omega) e4_10
  have e5_11 : h11 (b + 5) = .inl (0, 20, .inl (fun _ => 0)) := by rw [q11]; exact hset_q (by omega) e5_10
  have e0_11 : h11 b = .inr (4, [.ref (b + 1), .ref (b + 2), .ref (b + 3), .ref (b + 4), .ref (b + 5), .int 0]) := by rw [q11]; exact hset_s
  refine aw_put fp_X4_27_i dX4_init_46 e0_10 (by omega) (ble' rfl) (fun _ => ⟨rfl, rfl⟩) q11.symm ?_
  refine aw_vret rfl dX4_init_49 (ble' rfl) (ble' rfl) ?_
  exact ⟨rfl, rfl, C11, o11, e0_11, e1_11, e2_11, e3_11, e4_11, e5_11⟩

def At_X1 (h : Nat → AE) (b : Nat) : Prop := h b = .inr (1, [.ref (b + 1), .ref (b + 5), .ref (b + 8), .ref (b + 14), .ref (b + 21), .int 0]) ∧ At_X2 h (b + 1) ∧ At_X7 h (b + 5) ∧ At_X5 h (b + 8) ∧ At_X0 h (b + 14) ∧ At_X4 h (b + 21)
theorem At_X1_tr  {h h' : Nat → AE} {b : Nat} (q : At_X1 h b) (o : ∀ i, b ≤ i → i < b + 27 → h' i = h i) : At_X1 h' b := ⟨(o _ (by omega) (by omega)).trans q.1, At_X2_tr q.2.1 (fun i q1 q2 => o i (by omega) (by omega)), At_X7_tr q.2.2.1 (fun i q1 q2 => o i (by omega) (by omega)), At_X5_tr q.2.2.2.1 (fun i q1 q2 => o i (by omega) (by omega)), At_X0_tr q.2.2.2.2.1 (fun i q1 q2 => o i (by omega) (by omega)), At_X4_tr q.2.2.2.2.2 (fun i q1 q2 => o i (by omega) (by omega))⟩
def IP_X1 (b : Nat) (h : Nat → AE) : APost := fun o h' n' => o = .inl none ∧ n' = b + 27 ∧ HC h' (b + 27) ∧ (∀ i, i < b → h' i = h i) ∧ At_X1 h' b
set_option maxRecDepth 100000 in
set_option maxHeartbeats 4000000 in
theorem c_X1_init {h : Nat → AE} {b : Nat} (hb : b < 800000)  (e0_0 : h b = .inr (1, [.null, .null, .null, .null, .null, .int 0])) (C0 : HC h (b + 1)) : AMet tX1_init yX1_init [Cond.code yX1_init cX1_init 1 none] [.ref b] h (b + 1) (IP_X1 b h) := by
  have o0 : ∀ i, i < b → h i = h i := fun _ _ => rfl
  refine am_of (lo := [_]) (by decide) rfl (fun _ => rfl) rfl rfl rfl ?_
  refine aw_aload_n dX1_init_0 rfl ?_
  refine aw_objI kj_X1_3 dX1_init_1 ⟨by decide, by decide⟩ ?_
  refine aw_aload_n dX1_init_4 rfl ?_
  refine aw_new nw_X1_9 dX1_init_5 C0 (by omega) (lc_r (by omega) lc_nil) (sc_r (by omega) sc_nil) (by decide) (by decide) ?_
  obtain ⟨h1, q1⟩ : ∃ y9, y9 = hset h (b + 1) (.inr (2, [.null, .null, .null, .int 0])) := ⟨_, rfl⟩
  have C1 : HC h1 (b + 2) := by rw [q1]; exact HC.new C0 (sc_0 (sc_0 (sc_0 (sc_i sc_nil))))
  have o1 : ∀ i, i < b → h1 i = h i := fun i hi => by rw [q1]; exact (hset_n (by omega)).trans (o0 i hi)
  have e0_1 : h1 b = .inr (1, [.null, .null, .null, .null, .null, .int 0]) := by rw [q1]; exact hset_q (by omega) e0_0
  have e1_1 : h1 (b + 1) = .inr (2, [.null, .null, .null, .int 0]) := by rw [q1]; exact hset_s
  refine aw_heq q1.symm ?_
  refine aw_dup dX1_init_8 rfl ?_
  refine aw_callI ki_X1_11 ko_X2_init (c_X2_init (b := (b + 1))  (by omega)  e1_1 C1) dX1_init_9 rfl rfl (ble' rfl) (by decide) (lc_r (by omega) lc_nil) (sc_r (by omega) (sc_r (by omega) sc_nil)) (fun E h' n' q => by cases q.1) (fun v h' n' hp _ _ => ?_)
  obtain ⟨hv, rfl, C2, oo, a1_2⟩ := hp
  cases hv
  obtain ⟨h2, rfl⟩ : ∃ y9, y9 = h' := ⟨_, rfl⟩
  have C2 : HC h2 (b + 5) := C2
  have o2 : ∀ i, i < b → h2 i = h i := fun i hi => (oo i (by omega)).trans (o1 i hi)
  have e0_2 : h2 b = .inr (1, [.null, .null, .null, .null, .null, .int 0]) := (oo _ (by omega)).trans e0_1
  refine aw_nq (n' := (b + 5)) (by omega) ?_
  obtain ⟨h3, q3⟩ : ∃ y9, y9 = hset h2 b (.inr (1, [.ref (b + 1), .null, .null, .null, .null, .int 0])) := ⟨_, rfl⟩
  have C3 : HC h3 (b + 5) := by rw [q3]; exact HC.set C2 (sc_r (by omega) (sc_0 (sc_0 (sc_0 (sc_0 (sc_i sc_nil))))))
  have o3 : ∀ i, i < b → h3 i = h i := fun i hi => by rw [q3]; exact (hset_n (by omega)).trans (o2 i hi)
  have a1_3 : At_X2 h3 (b + 1) := At_X2_tr a1_2 (fun i q1 q2 => by rw [q3]; exact hset_n (by omega))
  have e0_3 : h3 b = .inr (1, [.ref (b + 1), .null, .null, .null, .null, .int 0]) := by rw [q3]; exact hset_s
  refine aw_put fp_X1_12_i dX1_init_12 e0_2 (by omega) (ble' rfl) (fun _ => ⟨rfl, rfl⟩) q3.symm ?_
  refine aw_aload_n dX1_init_15 rfl ?_
  refine aw_new nw_X1_18 dX1_init_16 C3 (by omega) (lc_r (by omega) lc_nil) (sc_r (by omega) sc_nil) (by decide) (by decide) ?_
  obtain ⟨h4, q4⟩ : ∃ y9, y9 = hset h3 (b + 5) (.inr (7, [.null, .null, .int 0])) := ⟨_, rfl⟩
  have C4 : HC h4 (b + 6) := by rw [q4]; exact HC.new C3 (sc_0 (sc_0 (sc_i sc_nil)))
  have o4 : ∀ i, i < b → h4 i = h i := fun i hi => by rw [q4]; exact (hset_n (by omega)).trans (o3 i hi)
  have e0_4 : h4 b = .inr (1, [.ref (b + 1), .null, .null, .null, .null, .int 0]) := by rw [q4]; exact hset_q (by omega) e0_3
  have a1_4 : At_X2 h4 (b + 1) := At_X2_tr a1_3 (fun i q1 q2 => by rw [q4]; exact hset_n (by omega))
  have e5_4 : h4 (b + 5) = .inr (7, [.null, .null, .int 0]) := by rw [q4]; exact hset_s
  refine aw_heq q4.symm ?_
  refine aw_dup dX1_init_19 rfl ?_
  refine aw_callI ki_X1_20 ko_X7_init (c_X7_init (b := (b + 5))  (by omega)  e5_4 C4) dX1_init_20 rfl rfl (ble' rfl) (by decide) (lc_r (by omega) lc_nil) (sc_r (by omega) (sc_r (by omega) sc_nil)) (fun E h' n' q => by cases q.1) (fun v h' n' hp _ _ => ?_)
  obtain ⟨hv, rfl, C5, oo, a5_5⟩ := hp
  cases hv
  obtain ⟨h5, rfl⟩ : ∃ y9, y9 = h' := ⟨_, rfl⟩
  have C5 : HC h5 (b + 8) := C5
  have o5 : ∀ i, i < b → h5 i = h i := fun i hi => (oo i (by omega)).trans (o4 i hi)
  have e0_5 : h5 b = .inr (1, [.ref (b + 1), .null, .null, .null, .null, .int 0]) := (oo _ (by omega)).trans e0_4
  have a1_5 : At_X2 h5 (b + 1) := At_X2_tr a1_4 (fun i q1 q2 => oo i (by omega))
  refine aw_nq (n' := (b + 8)) (by omega) ?_
  obtain ⟨h6, q6⟩ : ∃ y9, y9 = hset h5 b (.inr (1, [.ref (b + 1), .ref (b + 5), .null, .null, .null, .int 0])) := ⟨_, rfl⟩
  have C6 : HC h6 (b + 8) := by rw [q6]; exact HC.set C5 (sc_r (by omega) (sc_r (by omega) (sc_0 (sc_0 (sc_0 (sc_i sc_nil))))))
  have o6 : ∀ i, i < b → h6 i = h i := fun i hi => by rw [q6]; exact (hset_n (by omega)).trans (o5 i hi)
  have a1_6 : At_X2 h6 (b + 1) := At_X2_tr a1_5 (fun i q1 q2 => by rw [q6]; exact hset_n (by omega))
  have a5_6 : At_X7 h6 (b + 5) := At_X7_tr a5_5 (fun i q1 q2 => by rw [q6]; exact hset_n (by omega))
  have e0_6 : h6 b = .inr (1, [.ref (b + 1), .ref (b + 5), .null, .null, .null, .int 0]) := by rw [q6]; exact hset_s
  refine aw_put fp_X1_21_i dX1_init_23 e0_5 (by omega) (ble' rfl) (fun _ => ⟨rfl, rfl⟩) q6.symm ?_
  refine aw_aload_n dX1_init_26 rfl ?_
  refine aw_new nw_X1_25 dX1_init_27 C6 (by omega) (lc_r (by omega) lc_nil) (sc_r (by omega) sc_nil) (by decide) (by decide) ?_
  obtain ⟨h7, q7⟩ : ∃ y9, y9 = hset h6 (b + 8) (.inr (5, [.null, .null, .null, .null, .null, .int 0])) := ⟨_, rfl⟩
  have C7 : HC h7 (b + 9) := by rw [q7]; exact HC.new C6 (sc_0 (sc_0 (sc_0 (sc_0 (sc_0 (sc_i sc_nil))))))
  have o7 : ∀ i, i < b → h7 i = h i := fun i hi => by rw [q7]; exact (hset_n (by omega)).trans (o6 i hi)
  have e0_7 : h7 b = .inr (1, [.ref (b + 1), .ref (b + 5), .null, .null, .null, .int 0]) := by rw [q7]; exact hset_q (by omega) e0_6
  have a1_7 : At_X2 h7 (b + 1) := At_X2_tr a1_6 (fun i q1 q2 => by rw [q7]; exact hset_n (by omega))
  have a5_7 : At_X7 h7 (b + 5) := At_X7_tr a5_6 (fun i q1 q2 => by rw [q7]; exact hset_n (by omega))
  have e8_7 : h7 (b + 8) = .inr (5, [.null, .null, .null, .null, .null, .int 0]) := by rw [q7]; exact hset_s
  refine aw_heq q7.symm ?_
  refine aw_dup dX1_init_30 rfl ?_
  refine aw_callI ki_X1_27 ko_X5_init (c_X5_init (b := (b + 8))  (by omega)  e8_7 C7) dX1_init_31 rfl rfl (ble' rfl) (by decide) (lc_r (by omega) lc_nil) (sc_r (by omega) (sc_r (by omega) sc_nil)) (fun E h' n' q => by cases q.1) (fun v h' n' hp _ _ => ?_)
  obtain ⟨hv, rfl, C8, oo, a8_8⟩ := hp
  cases hv
  obtain ⟨h8, rfl⟩ : ∃ y9, y9 = h' := ⟨_, rfl⟩
  have C8 : HC h8 (b + 14) := C8
  have o8 : ∀ i, i < b → h8 i = h i := fun i hi => (oo i (by omega)).trans (o7 i hi)
  have e0_8 : h8 b = .inr (1, [.ref (b + 1), .ref (b + 5), .null, .null, .null, .int 0]) := (oo _ (by omega)).trans e0_7
  have a1_8 : At_X2 h8 (b + 1) := At_X2_tr a1_7 (fun i q1 q2 => oo i (by omega))
  have a5_8 : At_X7 h8 (b + 5) := At_X7_tr a5_7 (fun i q1 q2 => oo i (by omega))
  refine aw_nq (n' := (b + 14)) (by omega) ?_
  obtain ⟨h9, q9⟩ : ∃ y9, y9 = hset h8 b (.inr (1, [.ref (b + 1), .ref (b + 5), .ref (b + 8), .null, .null, .int 0])) := ⟨_, rfl⟩
  have C9 : HC h9 (b + 14) := by rw [q9]; exact HC.set C8 (sc_r (by omega) (sc_r (by omega) (sc_r (by omega) (sc_0 (sc_0 (sc_i sc_nil))))))
  have o9 : ∀ i, i < b → h9 i = h i := fun i hi => by rw [q9]; exact (hset_n (by omega)).trans (o8 i hi)
  have a1_9 : At_X2 h9 (b + 1) := At_X2_tr a1_8 (fun i q1 q2 => by rw [q9]; exact hset_n (by omega))
  have a5_9 : At_X7 h9 (b + 5) := At_X7_tr a5_8 (fun i q1 q2 => by rw [q9]; exact hset_n (by omega))
  have a8_9 : At_X5 h9 (b + 8) := At_X5_tr a8_8 (fun i q1 q2 => by rw [q9]; exact hset_n (by omega))
  have e0_9 : h9 b = .inr (1, [.ref (b + 1), .ref (b + 5), .ref (b + 8), .null, .null, .int 0]) := by rw [q9]; exact hset_s
  refine aw_put fp_X1_28_i dX1_init_34 e0_8 (by omega) (ble' rfl) (fun _ => ⟨rfl, rfl⟩) q9.symm ?_
  refine aw_aload_n dX1_init_37 rfl ?_
  refine aw_new nw_X1_32 dX1_init_38 C9 (by omega) (lc_r (by omega) lc_nil) (sc_r (by omega) sc_nil) (by decide) (by decide) ?_
  obtain ⟨h10, q10⟩ : ∃ y9, y9 = hset h9 (b + 14) (.inr (0, [.null, .null, .null, .null, .null, .null, .int 0])) := ⟨_, rfl⟩
  have C10 : HC h10 (b + 15) := by rw [q10]; exact HC.new C9 (sc_0 (sc_0 (sc_0 (sc_0 (sc_0 (sc_0 (sc_i sc_nil)))))))
  have o10 : ∀ i, i < b → h10 i = h i := fun i hi => by rw [q10]; exact (hset_n (by omega)).trans (o9 i hi)
  have e0_10 : h10 b = .inr (1, [.ref (b + 1), .ref (b + 5), .ref (b + 8), .null, .null, .int 0]) := by rw [q10]; exact hset_q (by omega) e0_9
  have a1_10 : At_X2 h10 (b + 1) := At_X2_tr a1_9 (fun i q1 q2 => by rw [q10]; exact hset_n (by omega))
  have a5_10 : At_X7 h10 (b + 5) := At_X7_tr a5_9 (fun i q1 q2 => by rw [q10]; exact hset_n (by omega))
  have a8_10 : At_X5 h10 (b + 8) := At_X5_tr a8_9 (fun i q1 q2 => by rw [q10]; exact hset_n (by omega))
  have e14_10 : h10 (b + 14) = .inr (0, [.null, .null, .null, .null, .null, .null, .int 0]) := by rw [q10]; exact hset_s
  refine aw_heq q10.symm ?_
  refine aw_dup dX1_init_41 rfl ?_
  refine aw_callI ki_X1_34 ko_X0_init (c_X0_init (b := (b + 14))  (by omega)  e14_10 C10) dX1_init_42 rfl rfl (ble' rfl) (by decide) (lc_r (by omega) lc_nil) (sc_r (by omega) (sc_r (by omega) sc_nil)) (fun E h' n' q => by cases q.1) (fun v h' n' hp _ _ => ?_)
  obtain ⟨hv, rfl, C11, oo, a14_11⟩ := hp
  cases hv
  obtain ⟨h11, rfl⟩ : ∃ y9, y9 = h' := ⟨_, rfl⟩
  have C11 : HC h11 (b + 21) := C11
  have o11 : ∀ i, i < b → h11 i = h i := fun i hi => (oo i (by omega)).trans (o10 i hi)
  have e0_11 : h11 b = .inr (1, [.ref (b + 1), .ref (b + 5), .ref (b + 8), .null, .null, .int 0]) := (oo _ (by omega)).trans e0_10
  have a1_11 : At_X2 h11 (b + 1) := At_X2_tr a1_10 (fun i q1 q2 => oo i (by omega))
  have a5_11 : At_X7 h11 (b + 5) := At_X7_tr a5_10 (fun i q1 q2 => oo i (by omega))
  have a8_11 : At_X5 h11 (b + 8) := At_X5_tr a8_10 (fun i q1 q2 => oo i (by omega))
  refine aw_nq (n' := (b + 21)) (by omega) ?_
  obtain ⟨h12, q12⟩ : ∃ y9, y9 = hset h11 b (.inr (1, [.ref (b + 1), .ref (b + 5), .ref (b + 8), .ref (b + 14), .null, .int 0])) := ⟨_, rfl⟩
  have C12 : HC h12 (b + 21) := by rw [q12]; exact HC.set C11 (sc_r (by omega) (sc_r (by omega) (sc_r (by omega) (sc_r (by omega) (sc_0 (sc_i sc_nil))))))
  have o12 : ∀ i, i < b → h12 i = h i := fun i hi => by rw [q12]; exact (hset_n (by omega)).trans (o11 i hi)
  have a1_12 : At_X2 h12 (b + 1) := At_X2_tr a1_11 (fun i q1 q2 => by rw [q12]; exact hset_n (by omega))
  have a5_12 : At_X7 h12 (b + 5) := At_X7_tr a5_11 (fun i q1 q2 => by rw [q12]; exact hset_n (by omega))
  have a8_12 : At_X5 h12 (b + 8) := At_X5_tr a8_11 (fun i q1 q2 => by rw [q12]; exact hset_n (by omega))
  have a14_12 : At_X0 h12 (b + 14) := At_X0_tr a14_11 (fun i q1 q2 => by rw [q12]; exact hset_n (by omega))
  have e0_12 : h12 b = .inr (1, [.ref (b + 1), .ref (b + 5), .ref (b + 8), .ref (b + 14), .null, .int 0]) := by rw [q12]; exact hset_s
  refine aw_put fp_X1_35_i dX1_init_45 e0_11 (by omega) (ble' rfl) (fun _ => ⟨rfl, rfl⟩) q12.symm ?_
  refine aw_aload_n dX1_init_48 rfl ?_
  refine aw_new nw_X1_39 dX1_init_49 C12 (by omega) (lc_r (by omega) lc_nil) (sc_r (by omega) sc_nil) (by decide) (by decide) ?_
  obtain ⟨h13, q13⟩ : ∃ y9, y9 = hset h12 (b + 21) (.inr (4, [.null, .null, .null, .null, .null, .int 0])) := ⟨_, rfl⟩
  have C13 : HC h13 (b + 22) := by rw [q13]; exact HC.new C12 (sc_0 (sc_0 (sc_0 (sc_0 (sc_0 (sc_i sc_nil))))))
  have o13 : ∀ i, i < b → h13 i = h i := fun i hi => by rw [q13]; exact (hset_n (by omega)).trans (o12 i hi)
  have e0_13 : h13 b = .inr (1, [.ref (b + 1), .ref (b + 5), .ref (b + 8), .ref (b + 14), .null, .int 0]) := by rw [q13]; exact hset_q (by omega) e0_12
  have a1_13 : At_X2 h13 (b + 1) := At_X2_tr a1_12 (fun i q1 q2 => by rw [q13]; exact hset_n (by omega))
  have a5_13 : At_X7 h13 (b + 5) := At_X7_tr a5_12 (fun i q1 q2 => by rw [q13]; exact hset_n (by omega))
  have a8_13 : At_X5 h13 (b + 8) := At_X5_tr a8_12 (fun i q1 q2 => by rw [q13]; exact hset_n (by omega))
  have a14_13 : At_X0 h13 (b + 14) := At_X0_tr a14_12 (fun i q1 q2 => by rw [q13]; exact hset_n (by omega))
  have e21_13 : h13 (b + 21) = .inr (4, [.null, .null, .null, .null, .null, .int 0]) := by rw [q13]; exact hset_s
  refine aw_heq q13.symm ?_
  refine aw_dup dX1_init_52 rfl ?_
  refine aw_callI ki_X1_41 ko_X4_init (c_X4_init (b := (b + 21))  (by omega)  e21_13 C13) dX1_init_53 rfl rfl (ble' rfl) (by decide) (lc_r (by omega) lc_nil) (sc_r (by omega) (sc_r (by omega) sc_nil)) (fun E h' n' q => by cases q.1) (fun v h' n' hp _ _ => ?_)
  obtain ⟨hv, rfl, C14, oo, a21_14⟩ := hp
  cases hv
  obtain ⟨h14, rfl⟩ : ∃ y9, y9 = h' := ⟨_, rfl⟩
  have C14 : HC h14 (b + 27) := C14
  have o14 : ∀ i, i < b → h14 i = h i := fun i hi => (oo i (by omega)).trans (o13 i hi)
  have e0_14 : h14 b = .inr (1, [.ref (b + 1), .ref (b + 5), .ref (b + 8), .ref (b + 14), .null, .int 0]) := (oo _ (by omega)).trans e0_13
  have a1_14 : At_X2 h14 (b + 1) := At_X2_tr a1_13 (fun i q1 q2 => oo i (by omega))
  have a5_14 : At_X7 h14 (b + 5) := At_X7_tr a5_13 (fun i q1 q2 => oo i (by omega))
  have a8_14 : At_X5 h14 (b + 8) := At_X5_tr a8_13 (fun i q1 q2 => oo i (by omega))
  have a14_14 : At_X0 h14 (b + 14) := At_X0_tr a14_13 (fun i q1 q2 => oo i (by omega))
  refine aw_nq (n' := (b + 27)) (by omega) ?_
  obtain ⟨h15, q15⟩ : ∃ y9, y9 = hset h14 b (.inr (1, [.ref (b + 1), .ref (b + 5), .ref (b + 8), .ref (b + 14), .ref (b + 21), .int 0])) := ⟨_, rfl⟩
  have C15 : HC h15 (b + 27) := by rw [q15]; exact HC.set C14 (sc_r (by omega) (sc_r (by omega) (sc_r (by omega) (sc_r (by omega) (sc_r (by omega) (sc_i sc_nil))))))
  have o15 : ∀ i, i < b → h15 i = h i := fun i hi => by rw [q15]; exact (hset_n (by omega)).trans (o14 i hi)
  have a1_15 : At_X2 h15 (b + 1) := At_X2_tr a1_14 (fun i q1 q2 => by rw [q15]; exact hset_n (by omega))
  have a5_15 : At_X7 h15 (b + 5) := At_X7_tr a5_14 (fun i q1 q2 => by rw [q15]; exact hset_n (by omega))
  have a8_15 : At_X5 h15 (b + 8) := At_X5_tr a8_14 (fun i q1 q2 => by rw [q15]; exact hset_n (by omega))
  have a14_15 : At_X0 h15 (b + 14) := At_X0_tr a14_14 (fun i q1 q2 => by rw [q15]; exact hset_n (by omega))
  have a21_15 : At_X4 h15 (b + 21) := At_X4_tr a21_14 (fun i q1 q2 => by rw [q15]; exact hset_n (by omega))
  have e0_15 : h15 b = .inr (1, [.ref (b + 1), .ref (b + 5), .ref (b + 8), .ref (b + 14), .ref (b + 21), .int 0]) := by rw [q15]; exact hset_s
  refine aw_put fp_X1_42_i dX1_init_56 e0_14 (by omega) (ble' rfl) (fun _ => ⟨rfl, rfl⟩) q15.symm ?_
  refine aw_aload_n dX1_init_59 rfl ?_
  refine aw_iconst (v := 0) dX1_init_60 (by decide) ?_
  obtain ⟨h16, q16⟩ : ∃ y9, y9 = hset h15 b (.inr (1, [.ref (b + 1), .ref (b + 5), .ref (b + 8), .ref (b + 14), .ref (b + 21), .int 0])) := ⟨_, rfl⟩
  have C16 : HC h16 (b + 27) := by rw [q16]; exact HC.set C15 (sc_r (by omega) (sc_r (by omega) (sc_r (by omega) (sc_r (by omega) (sc_r (by omega) (sc_i sc_nil))))))
  have o16 : ∀ i, i < b → h16 i = h i := fun i hi => by rw [q16]; exact (hset_n (by omega)).trans (o15 i hi)
  have a1_16 : At_X2 h16 (b + 1) := At_X2_tr a1_15 (fun i q1 q2 => by rw [q16]; exact hset_n (by omega))
  have a5_16 : At_X7 h16 (b + 5) := At_X7_tr a5_15 (fun i q1 q2 => by rw [q16]; exact hset_n (by omega))
  have a8_16 : At_X5 h16 (b + 8) := At_X5_tr a8_15 (fun i q1 q2 => by rw [q16]; exact hset_n (by omega))
  have a14_16 : At_X0 h16 (b + 14) := At_X0_tr a14_15 (fun i q1 q2 => by rw [q16]; exact hset_n (by omega))
  have a21_16 : At_X4 h16 (b + 21) := At_X4_tr a21_15 (fun i q1 q2 => by rw [q16]; exact hset_n (by omega))
  have e0_16 : h16 b = .inr (1, [.ref (b + 1), .ref (b + 5), .ref (b + 8), .ref (b + 14), .ref (b + 21), .int 0]) := by rw [q16]; exact hset_s
  refine aw_put fp_X1_46_i dX1_init_61 e0_15 (by omega) (ble' rfl) (fun _ => ⟨rfl, rfl⟩) q16.symm ?_
  refine aw_vret rfl dX1_init_64 (ble' rfl) (ble' rfl) ?_
  exact ⟨rfl, rfl, C16, o16, e0_16, a1_16, a5_16, a8_16, a14_16, a21_16⟩

def At_X10 (h : Nat → AE) (b : Nat) : Prop := h b = .inr (10, [.ref (b + 1), .ref (b + 2), .ref (b + 3), .ref (b + 4), .int 0, .ref (b + 5), .ref (b + 6), .int 0, .int 0, .ref (b + 7), .int 0, .int 0, .int 0, .int 0, .int 0, .int 0, .int 0, .int (-1), .long 0]) ∧ h (b + 1) = .inl (0, 572, .inl (fun _ => 0)) ∧ h (b + 2) = .inl (0, 572, .inl (fun _ => 0)) ∧ h (b + 3) = .inl (0, 1144, .inl (fun _ => 0)) ∧ h (b + 4) = .inl (3, 2, .inl (fun _ => 0)) ∧ h (b + 5) = .inl (0, 60, .inl (fun _ => 0)) ∧ h (b + 6) = .inl (0, 16, .inl (fun _ => 0)) ∧ h (b + 7) = .inl (0, 500, .inl (fun _ => 0))
theorem At_X10_tr  {h h' : Nat → AE} {b : Nat} (q : At_X10 h b) (o : ∀ i, b ≤ i → i < b + 8 → h' i = h i) : At_X10 h' b := ⟨(o _ (by omega) (by omega)).trans q.1, (o _ (by omega) (by omega)).trans q.2.1, (o _ (by omega) (by omega)).trans q.2.2.1, (o _ (by omega) (by omega)).trans q.2.2.2.1, (o _ (by omega) (by omega)).trans q.2.2.2.2.1, (o _ (by omega) (by omega)).trans q.2.2.2.2.2.1, (o _ (by omega) (by omega)).trans q.2.2.2.2.2.2.1, (o _ (by omega) (by omega)).trans q.2.2.2.2.2.2.2⟩
def IP_X10 (b : Nat) (h : Nat → AE) : APost := fun o h' n' => o = .inl none ∧ n' = b + 8 ∧ HC h' (b + 8) ∧ (∀ i, i < b → h' i = h i) ∧ At_X10 h' b
set_option maxRecDepth 100000 in
set_option maxHeartbeats 4000000 in
theorem c_X10_init {h : Nat → AE} {b : Nat} (hb : b < 850000)  (e0_0 : h b = .inr (10, [.null, .null, .null, .null, .int 0, .null, .null, .int 0, .int 0, .null, .int 0, .int 0, .int 0, .int 0, .int 0, .int 0, .int 0, .int 0, .long 0])) (C0 : HC h (b + 1)) : AMet tX10_init yX10_init [Cond.code yX10_init cX10_init 1 none] [.ref b] h (b + 1) (IP_X10 b h) := by
  have o0 : ∀ i, i < b → h i = h i := fun _ _ => rfl
  refine am_of (lo := [_]) (by decide) rfl (fun _ => rfl) rfl rfl rfl ?_
  refine aw_aload_n dX10_init_0 rfl ?_
  refine aw_objI kj_X10_1 dX10_init_1 ⟨by decide, by decide⟩ ?_
  refine aw_aload_n dX10_init_4 rfl ?_
  refine aw_sipush (v := 572) dX10_init_5 (by decide) ?_
  refine awn_int (N := 572) (by decide) (by decide) (by decide) dX10_init_8 C0 (by omega) (lc_r (by omega) lc_nil) (sc_r (by omega) sc_nil) (by decide) (by decide) ?_
  obtain ⟨h1, q1⟩ : ∃ y9, y9 = hset h (b + 1) (.inl (0, 572, .inl (fun _ => 0))) := ⟨_, rfl⟩
  have C1 : HC h1 (b + 2) := by rw [q1]; exact HC.new C0 trivial
  have o1 : ∀ i, i < b → h1 i = h i := fun i hi => by rw [q1]; exact (hset_n (by omega)).trans (o0 i hi)
  have e0_1 : h1 b = .inr (10, [.null, .null, .null, .null, .int 0, .null, .null, .int 0, .int 0, .null, .int 0, .int 0, .int 0, .int 0, .int 0, .int 0, .int 0, .int 0, .long 0]) := by rw [q1]; exact hset_q (by omega) e0_0
  have e1_1 : h1 (b + 1) = .inl (0, 572, .inl (fun _ => 0)) := by rw [q1]; exact hset_s
  refine aw_heq q1.symm ?_
  obtain ⟨h2, q2⟩ : ∃ y9, y9 = hset h1 b (.inr (10, [.ref (b + 1), .null, .null, .null, .int 0, .null, .null, .int 0, .int 0, .null, .int 0, .int 0, .int 0, .int 0, .int 0, .int 0, .int 0, .int 0, .long 0])) := ⟨_, rfl⟩
  have C2 : HC h2 (b + 2) := by rw [q2]; exact HC.set C1 (sc_r (by omega) (sc_0 (sc_0 (sc_0 (sc_i (sc_0 (sc_0 (sc_i (sc_i (sc_0 (sc_i (sc_i (sc_i (sc_i (sc_i (sc_i (sc_i (sc_i (sc_l sc_nil)))))))))))))))))))
  have o2 : ∀ i, i < b → h2 i = h i := fun i hi => by rw [q2]; exact (hset_n (by omega)).trans (o1 i hi)
  have e1_2 : h2 (b + 1) = .inl (0, 572, .inl (fun _ => 0)) := by rw [q2]; exact hset_q (by omega) e1_1
  have e0_2 : h2 b = .inr (10, [.ref (b + 1), .null, .null, .null, .int 0, .null, .null, .int 0, .int 0, .null, .int 0, .int 0, .int 0, .int 0, .int 0, .int 0, .int 0, .int 0, .long 0]) := by rw [q2]; exact hset_s
  refine aw_put fp_X10_7_i dX10_init_10 e0_1 (by omega) (ble' rfl) (fun _ => ⟨rfl, rfl⟩) q2.symm ?_
  refine aw_aload_n dX10_init_13 rfl ?_
  refine aw_sipush (v := 572) dX10_init_14 (by decide) ?_
  refine awn_int (N := 572) (by decide) (by decide) (by decide) dX10_init_17 C2 (by omega) (lc_r (by omega) lc_nil) (sc_r (by omega) sc_nil) (by decide) (by decide) ?_
  obtain ⟨h3, q3⟩ : ∃ y9, y9 = hset h2 (b + 2) (.inl (0, 572, .inl (fun _ => 0))) := ⟨_, rfl⟩
  have C3 : HC h3 (b + 3) := by rw [q3]; exact HC.new C2 trivial
  have o3 : ∀ i, i < b → h3 i = h i := fun i hi => by rw [q3]; exact (hset_n (by omega)).trans (o2 i hi)
  have e0_3 : h3 b = .inr (10, [.ref (b + 1), .null, .null, .null, .int 0, .null, .null, .int 0, .int 0, .null, .int 0, .int 0, .int 0, .int 0, .int 0, .int 0, .int 0, .int 0, .long 0]) := by rw [q3]; exact hset_q (by omega) e0_2
  have e1_3 : h3 (b + 1) = .inl (0, 572, .inl (fun _ => 0)) := by rw [q3]; exact hset_q (by omega) e1_2
  have e2_3 : h3 (b + 2) = .inl (0, 572, .inl (fun _ => 0)) := by rw [q3]; exact hset_s
  refine aw_heq q3.symm ?_
  obtain ⟨h4, q4⟩ : ∃ y9, y9 = hset h3 b (.inr (10, [.ref (b + 1), .ref (b + 2), .null, .null, .int 0, .null, .null, .int 0, .int 0, .null, .int 0, .int 0, .int 0, .int 0, .int 0, .int 0, .int 0, .int 0, .long 0])) := ⟨_, rfl⟩
  have C4 : HC h4 (b + 3) := by rw [q4]; exact HC.set C3 (sc_r (by omega) (sc_r (by omega) (sc_0 (sc_0 (sc_i (sc_0 (sc_0 (sc_i (sc_i (sc_0 (sc_i (sc_i (sc_i (sc_i (sc_i (sc_i (sc_i (sc_i (sc_l sc_nil)))))))))))))))))))
  have o4 : ∀ i, i < b → h4 i = h i := fun i hi => by rw [q4]; exact (hset_n (by omega)).trans (o3 i hi)
  have e1_4 : h4 (b + 1) = .inl (0, 572, .inl (fun _ => 0)) := by rw [q4]; exact hset_q (by omega) e1_3
  have e2_4 : h4 (b + 2) = .inl (0, 572, .inl (fun _ => 0)) := by rw [q4]; exact hset_q (by omega) e2_3
  have e0_4 : h4 b = .inr (10, [.ref (b + 1), .ref (b + 2), .null, .null, .int 0, .null, .null, .int 0, .int 0, .null, .int 0, .int 0, .int 0, .int 0, .int 0, .int 0, .int 0, .int 0, .long 0]) := by rw [q4]; exact hset_s
  refine aw_put fp_X10_13_i dX10_init_19 e0_3 (by omega) (ble' rfl) (fun _ => ⟨rfl, rfl⟩) q4.symm ?_
  refine aw_aload_n dX10_init_22 rfl ?_
  refine aw_sipush (v := 1144) dX10_init_23 (by decide) ?_
  refine awn_int (N := 1144) (by decide) (by decide) (by decide) dX10_init_26 C4 (by omega) (lc_r (by omega) lc_nil) (sc_r (by omega) sc_nil) (by decide) (by decide) ?_
  obtain ⟨h5, q5⟩ : ∃ y9, y9 = hset h4 (b + 3) (.inl (0, 1144, .inl (fun _ => 0))) := ⟨_, rfl⟩
  have C5 : HC h5 (b + 4) := by rw [q5]; exact HC.new C4 trivial
  have o5 : ∀ i, i < b → h5 i = h i := fun i hi => by rw [q5]; exact (hset_n (by omega)).trans (o4 i hi)
  have e0_5 : h5 b = .inr (10, [.ref (b + 1), .ref (b + 2), .null, .null, .int 0, .null, .null, .int 0, .int 0, .null, .int 0, .int 0, .int 0, .int 0, .int 0, .int 0, .int 0, .int 0, .long 0]) := by rw [q5]; exact hset_q (by omega) e0_4
  have e1_5 : h5 (b + 1) = .inl (0, 572, .inl (fun _ => 0)) := by rw [q5]; exact hset_q (by omega) e1_4
  have e2_5 : h5 (b + 2) = .inl (0, 572, .inl (fun _ => 0)) := by rw [q5]; exact hset_q (by omega) e2_4
  have e3_5 : h5 (b + 3) = .inl (0, 1144, .inl (fun _ => 0)) := by rw [q5]; exact hset_s
  refine aw_heq q5.symm ?_
  obtain ⟨h6, q6⟩ : ∃ y9, y9 = hset h5 b (.inr (10, [.ref (b + 1), .ref (b + 2), .ref (b + 3), .null, .int 0, .null, .null, .int 0, .int 0, .null, .int 0, .int 0, .int 0, .int 0, .int 0, .int 0, .int 0, .int 0, .long 0])) := ⟨_, rfl⟩
  have C6 : HC h6 (b + 4) := by rw [q6]; exact HC.set C5 (sc_r (by omega) (sc_r (by omega) (sc_r (by omega) (sc_0 (sc_i (sc_0 (sc_0 (sc_i (sc_i (sc_0 (sc_i (sc_i (sc_i (sc_i (sc_i (sc_i (sc_i (sc_i (sc_l sc_nil)))))))))))))))))))
  have o6 : ∀ i, i < b → h6 i = h i := fun i hi => by rw [q6]; exact (hset_n (by omega)).trans (o5 i hi)
  have e1_6 : h6 (b + 1) = .inl (0, 572, .inl (fun _ => 0)) := by rw [q6]; exact hset_q (by omega) e1_5
  have e2_6 : h6 (b + 2) = .inl (0, 572, .inl (fun _ => 0)) := by rw [q6]; exact hset_q (by omega) e2_5
  have e3_6 : h6 (b + 3) = .inl (0, 1144, .inl (fun _ => 0)) := by rw [q6]; exact hset_q (by omega) e3_5
  have e0_6 : h6 b = .inr (10, [.ref (b + 1), .ref (b + 2), .ref (b + 3), .null, .int 0, .null, .null, .int 0, .int 0, .null, .int 0, .int 0, .int 0, .int 0, .int 0, .int 0, .int 0, .int 0, .long 0]) := by rw [q6]; exact hset_s
  refine aw_put fp_X10_16_i dX10_init_28 e0_5 (by omega) (ble' rfl) (fun _ => ⟨rfl, rfl⟩) q6.symm ?_
  refine aw_aload_n dX10_init_31 rfl ?_
  refine aw_iconst (v := 2) dX10_init_32 (by decide) ?_
  refine awn_boolean (N := 2) (by decide) (by decide) (by decide) dX10_init_33 C6 (by omega) (lc_r (by omega) lc_nil) (sc_r (by omega) sc_nil) (by decide) (by decide) ?_
  obtain ⟨h7, q7⟩ : ∃ y9, y9 = hset h6 (b + 4) (.inl (3, 2, .inl (fun _ => 0))) := ⟨_, rfl⟩
  have C7 : HC h7 (b + 5) := by rw [q7]; exact HC.new C6 trivial
  have o7 : ∀ i, i < b → h7 i = h i := fun i hi => by rw [q7]; exact (hset_n (by omega)).trans (o6 i hi)
  have e0_7 : h7 b = .inr (10, [.ref (b + 1), .ref (b + 2), .ref (b + 3), .null, .int 0, .null, .null, .int 0, .int 0, .null, .int 0, .int 0, .int 0, .int 0, .int 0, .int 0, .int 0, .int 0, .long 0]) := by rw [q7]; exact hset_q (by omega) e0_6
  have e1_7 : h7 (b + 1) = .inl (0, 572, .inl (fun _ => 0)) := by rw [q7]; exact hset_q (by omega) e1_6
  have e2_7 : h7 (b + 2) = .inl (0, 572, .inl (fun _ => 0)) := by rw [q7]; exact hset_q (by omega) e2_6
  have e3_7 : h7 (b + 3) = .inl (0, 1144, .inl (fun _ => 0)) := by rw [q7]; exact hset_q (by omega) e3_6
  have e4_7 : h7 (b + 4) = .inl (3, 2, .inl (fun _ => 0)) := by rw [q7]; exact hset_s
  refine aw_heq q7.symm ?_
  obtain ⟨h8, q8⟩ : ∃ y9, y9 = hset h7 b (.inr (10, [.ref (b + 1), .ref (b + 2), .ref (b + 3), .ref (b + 4), .int 0, .null, .null, .int 0, .int 0, .null, .int 0, .int 0, .int 0, .int 0, .int 0, .int 0, .int 0, .int 0, .long 0])) := ⟨_, rfl⟩
  have C8 : HC h8 (b + 5) := by rw [q8]; exact HC.set C7 (sc_r (by omega) (sc_r (by omega) (sc_r (by omega) (sc_r (by omega) (sc_i (sc_0 (sc_0 (sc_i (sc_i (sc_0 (sc_i (sc_i (sc_i (sc_i (sc_i (sc_i (sc_i (sc_i (sc_l sc_nil)))))))))))))))))))
  have o8 : ∀ i, i < b → h8 i = h i := fun i hi => by rw [q8]; exact (hset_n (by omega)).trans (o7 i hi)
  have e1_8 : h8 (b + 1) = .inl (0, 572, .inl (fun _ => 0)) := by rw [q8]; exact hset_q (by omega) e1_7
  have e2_8 : h8 (b + 2) = .inl (0, 572, .inl (fun _ => 0)) := by rw [q8]; exact hset_q (by omega) e2_7
  have e3_8 : h8 (b + 3) = .inl (0, 1144, .inl (fun _ => 0)) := by rw [q8]; exact hset_q (by omega) e3_7
  have e4_8 : h8 (b + 4) = .inl (3, 2, .inl (fun _ => 0)) := by rw [q8]; exact hset_q (by omega) e4_7
  have e0_8 : h8 b = .inr (10, [.ref (b + 1), .ref (b + 2), .ref (b + 3), .ref (b + 4), .int 0, .null, .null, .int 0, .int 0, .null, .int 0, .int 0, .int 0, .int 0, .int 0, .int 0, .int 0, .int 0, .long 0]) := by rw [q8]; exact hset_s
  refine aw_put fp_X10_19_i dX10_init_35 e0_7 (by omega) (ble' rfl) (fun _ => ⟨rfl, rfl⟩) q8.symm ?_
  refine aw_aload_n dX10_init_38 rfl ?_
  refine aw_bipush (v := 60) dX10_init_39 (by decide) ?_
  refine awn_int (N := 60) (by decide) (by decide) (by decide) dX10_init_41 C8 (by omega) (lc_r (by omega) lc_nil) (sc_r (by omega) sc_nil) (by decide) (by decide) ?_
  obtain ⟨h9, q9⟩ : ∃ y9, y9 = hset h8 (b + 5) (.inl (0, 60, .inl (fun _ => 0))) := ⟨_, rfl⟩
  have C9 : HC h9 (b + 6) := by rw [q9]; exact HC.new C8 trivial
  have o9 : ∀ i, i < b → h9 i = h i := fun i hi => by rw [q9]; exact (hset_n (by omega)).trans (o8 i hi)
  have e0_9 : h9 b = .inr (10, [.ref (b + 1), .ref (b + 2), .ref (b + 3), .ref (b + 4), .int 0, .null, .null, .int 0, .int 0, .null, .int 0, .int 0, .int 0, .int 0, .int 0, .int 0, .int 0, .int 0, .long 0]) := by rw [q9]; exact hset_q (by omega) e0_8
  have e1_9 : h9 (b + 1) = .inl (0, 572, .inl (fun _ => 0)) := by rw [q9]; exact hset_q (by omega) e1_8
  have e2_9 : h9 (b + 2) = .inl (0, 572, .inl (fun _ => 0)) := by rw [q9]; exact hset_q (by omega) e2_8
  have e3_9 : h9 (b + 3) = .inl (0, 1144, .inl (fun _ => 0)) := by rw [q9]; exact hset_q (by omega) e3_8
  have e4_9 : h9 (b + 4) = .inl (3, 2, .inl (fun _ => 0)) := by rw [q9]; exact hset_q (by omega) e4_8
  have e5_9 : h9 (b + 5) = .inl (0, 60, .inl (fun _ => 0)) := by rw [q9]; exact hset_s
  refine aw_heq q9.symm ?_
  obtain ⟨h10, q10⟩ : ∃ y9, y9 = hset h9 b (.inr (10, [.ref (b + 1), .ref (b + 2), .ref (b + 3), .ref (b + 4), .int 0, .ref (b + 5), .null, .int 0, .int 0, .null, .int 0, .int 0, .int 0, .int 0, .int 0, .int 0, .int 0, .int 0, .long 0])) := ⟨_, rfl⟩
  have C10 : HC h10 (b + 6) := by rw [q10]; exact HC.set C9 (sc_r (by omega) (sc_r (by omega) (sc_r (by omega) (sc_r (by omega) (sc_i (sc_r (by omega) (sc_0 (sc_i (sc_i (sc_0 (sc_i (sc_i (sc_i (sc_i (sc_i (sc_i (sc_i (sc_i (sc_l sc_nil)))))))))))))))))))
  have o10 : ∀ i, i < b → h10 i = h i := fun i hi => by rw [q10]; exact (hset_n (by omega)).trans (o9 i hi)
  have e1_10 : h10 (b + 1) = .inl (0, 572, .inl (fun _ => 0)) := by rw [q10]; exact hset_q (by omega) e1_9
  have e2_10 : h10 (b + 2) = .inl (0, 572, .inl (fun _ => 0)) := by rw [q10]; exact hset_q (by omega) e2_9
  have e3_10 : h10 (b + 3) = .inl (0, 1144, .inl (fun _ => 0)) := by rw [q10]; exact hset_q (by omega) e3_9
  have e4_10 : h10 (b + 4) = .inl (3, 2, .inl (fun _ => 0)) := by rw [q10]; exact hset_q (by omega) e4_9
  have e5_10 : h10 (b + 5) = .inl (0, 60, .inl (fun _ => 0)) := by rw [q10]; exact hset_q (by omega) e5_9
  have e0_10 : h10 b = .inr (10, [.ref (b + 1), .ref (b + 2), .ref (b + 3), .ref (b + 4), .int 0, .ref (b + 5), .null, .int 0, .int 0, .null, .int 0, .int 0, .int 0, .int 0, .int 0, .int 0, .int 0, .int 0, .long 0]) := by rw [q10]; exact hset_s
  refine aw_put fp_X10_23_i dX10_init_43 e0_9 (by omega) (ble' rfl) (fun _ => ⟨rfl, rfl⟩) q10.symm ?_
  refine aw_aload_n dX10_init_46 rfl ?_
  refine aw_bipush (v := 16) dX10_init_47 (by decide) ?_
  refine awn_int (N := 16) (by decide) (by decide) (by decide) dX10_init_49 C10 (by omega) (lc_r (by omega) lc_nil) (sc_r (by omega) sc_nil) (by decide) (by decide) ?_
  obtain ⟨h11, q11⟩ : ∃ y9, y9 = hset h10 (b + 6) (.inl (0, 16, .inl (fun _ => 0))) := ⟨_, rfl⟩
  have C11 : HC h11 (b + 7) := by rw [q11]; exact HC.new C10 trivial
  have o11 : ∀ i, i < b → h11 i = h i := fun i hi => by rw [q11]; exact (hset_n (by omega)).trans (o10 i hi)
  have e0_11 : h11 b = .inr (10, [.ref (b + 1), .ref (b + 2), .ref (b + 3), .ref (b + 4), .int 0, .ref (b + 5), .null, .int 0, .int 0, .null, .int 0, .int 0, .int 0, .int 0, .int 0, .int 0, .int 0, .int 0, .long 0]) := by rw [q11]; exact hset_q (by omega) e0_10
  have e1_11 : h11 (b + 1) = .inl (0, 572, .inl (fun _ => 0)) := by rw [q11]; exact hset_q (by omega) e1_10
  have e2_11 : h11 (b + 2) = .inl (0, 572, .inl (fun _ => 0)) := by rw [q11]; exact hset_q (by omega) e2_10
  have e3_11 : h11 (b + 3) = .inl (0, 1144, .inl (fun _ => 0)) := by rw [q11]; exact hset_q (by omega) e3_10
  have e4_11 : h11 (b + 4) = .inl (3, 2, .inl (fun _ => 0)) := by rw [q11]; exact hset_q (by omega) e4_10
  have e5_11 : h11 (b + 5) = .inl (0, 60, .inl (fun _ => 0)) := by rw [q11]; exact hset_q (by omega) e5_10
  have e6_11 : h11 (b + 6) = .inl (0, 16, .inl (fun _ => 0)) := by rw [q11]; exact hset_s
  refine aw_heq q11.symm ?_
  obtain ⟨h12, q12⟩ : ∃ y9, y9 = hset h11 b (.inr (10, [.ref (b + 1), .ref (b + 2), .ref (b + 3), .ref (b + 4), .int 0, .ref (b + 5), .ref (b + 6), .int 0, .int 0, .null, .int 0, .int 0, .int 0, .int 0, .int 0, .int 0, .int 0, .int 0, .long 0])) := ⟨_, rfl⟩
  have C12 : HC h12 (b + 7) := by rw [q12]; exact HC.set C11 (sc_r (by omega) (sc_r (by omega) (sc_r (by omega) (sc_r (by omega) (sc_i (sc_r (by omega) (sc_r (by omega) (sc_i (sc_i (sc_0 (sc_i (sc_i (sc_i (sc_i (sc_i (sc_i (sc_i (sc_i (sc_l sc_nil)))))))))))))))))))
  have o12 : ∀ i, i < b → h12 i = h i := fun i hi => by rw [q12]; exact (hset_n (by omega)).trans (o11 i hi)
  have e1_12 : h12 (b + 1) = .inl (0, 572, .inl (fun _ => 0)) := by rw [q12]; exact hset_q (by omega) e1_11
  have e2_12 : h12 (b + 2) = .inl (0, 572, .inl (fun _ => 0)) := by rw [q12]; exact hset_q (by omega) e2_11
  have e3_12 : h12 (b + 3) = .inl (0, 1144, .inl (fun _ => 0)) := by rw [q12]; exact hset_q (by omega) e3_11
  have e4_12 : h12 (b + 4) = .inl (3, 2, .inl (fun _ => 0)) := by rw [q12]; exact hset_q (by omega) e4_11
  have e5_12 : h12 (b + 5) = .inl (0, 60, .inl (fun _ => 0)) := by rw [q12]; exact hset_q (by omega) e5_11
  have e6_12 : h12 (b + 6) = .inl (0, 16, .inl (fun _ => 0)) := by rw [q12]; exact hset_q (by omega) e6_11
  have e0_12 : h12 b = .inr (10, [.ref (b + 1), .ref (b + 2), .ref (b + 3), .ref (b + 4), .int 0, .ref (b + 5), .ref (b + 6), .int 0, .int 0, .null, .int 0, .int 0, .int 0, .int 0, .int 0, .int 0, .int 0, .int 0, .long 0]) := by rw [q12]; exact hset_s
  refine aw_put fp_X10_26_i dX10_init_51 e0_11 (by omega) (ble' rfl) (fun _ => ⟨rfl, rfl⟩) q12.symm ?_
  refine aw_aload_n dX10_init_54 rfl ?_
  refine aw_sipush (v := 500) dX10_init_55 (by decide) ?_
  refine awn_int (N := 500) (by decide) (by decide) (by decide) dX10_init_58 C12 (by omega) (lc_r (by omega) lc_nil) (sc_r (by omega) sc_nil) (by decide) (by decide) ?_
  obtain ⟨h13, q13⟩ : ∃ y9, y9 = hset h12 (b + 7) (.inl (0, 500, .inl (fun _ => 0))) := ⟨_, rfl⟩
  have C13 : HC h13 (b + 8) := by rw [q13]; exact HC.new C12 trivial
  have o13 : ∀ i, i < b → h13 i = h i := fun i hi => by rw [q13]; exact (hset_n (by omega)).trans (o12 i hi)
  have e0_13 : h13 b = .inr (10, [.ref (b + 1), .ref (b + 2), .ref (b + 3), .ref (b + 4), .int 0, .ref (b + 5), .ref (b + 6), .int 0, .int 0, .null, .int 0, .int 0, .int 0, .int 0, .int 0, .int 0, .int 0, .int 0, .long 0]) := by rw [q13]; exact hset_q (by omega) e0_12
  have e1_13 : h13 (b + 1) = .inl (0, 572, .inl (fun _ => 0)) := by rw [q13]; exact hset_q (by omega) e1_12
  have e2_13 : h13 (b + 2) = .inl (0, 572, .inl (fun _ => 0)) := by rw [q13]; exact hset_q (by omega) e2_12
  have e3_13 : h13 (b + 3) = .inl (0, 1144, .inl (fun _ => 0)) := by rw [q13]; exact hset_q (by omega) e3_12
  have e4_13 : h13 (b + 4) = .inl (3, 2, .inl (fun _ => 0)) := by rw [q13]; exact hset_q (by omega) e4_12
  have e5_13 : h13 (b + 5) = .inl (0, 60, .inl (fun _ => 0)) := by rw [q13]; exact hset_q (by omega) e5_12
  have e6_13 : h13 (b + 6) = .inl (0, 16, .inl (fun _ => 0)) := by rw [q13]; exact hset_q (by omega) e6_12
  have e7_13 : h13 (b + 7) = .inl (0, 500, .inl (fun _ => 0)) := by rw [q13]; exact hset_s
  refine aw_heq q13.symm ?_
  obtain ⟨h14, q14⟩ : ∃ y9, y9 = hset h13 b (.inr (10, [.ref (b + 1), .ref (b + 2), .ref (b + 3), .ref (b + 4), .int 0, .ref (b + 5), .ref (b + 6), .int 0, .int 0, .ref (b + 7), .int 0, .int 0, .int 0, .int 0, .int 0, .int 0, .int 0, .int 0, .long 0])) := ⟨_, rfl⟩
  have C14 : HC h14 (b + 8) := by rw [q14]; exact HC.set C13 (sc_r (by omega) (sc_r (by omega) (sc_r (by omega) (sc_r (by omega) (sc_i (sc_r (by omega) (sc_r (by omega) (sc_i (sc_i (sc_r (by omega) (sc_i (sc_i (sc_i (sc_i (sc_i (sc_i (sc_i (sc_i (sc_l sc_nil)))))))))))))))))))
  have o14 : ∀ i, i < b → h14 i = h i := fun i hi => by rw [q14]; exact (hset_n (by omega)).trans (o13 i hi)
  have e1_14 : h14 (b + 1) = .inl (0, 572, .inl (fun _ => 0)) := by rw [q14]; exact hset_q (by omega) e1_13
  have e2_14 : h14 (b + 2) = .inl (0, 572, .inl (fun _ => 0)) := by rw [q14]; exact hset_q (by omega) e2_13
  have e3_14 : h14 (b + 3) = .inl (0, 1144, .inl (fun _ => 0)) := by rw [q14]; exact hset_q (by omega) e3_13
  have e4_14 : h14 (b + 4) = .inl (3, 2, .inl (fun _ => 0)) := by rw [q14]; exact hset_q (by omega) e4_13
  have e5_14 : h14 (b + 5) = .inl (0, 60, .inl (fun _ => 0)) := by rw [q14]; exact hset_q (by omega) e5_13
  have e6_14 : h14 (b + 6) = .inl (0, 16, .inl (fun _ => 0)) := by rw [q14]; exact hset_q (by omega) e6_13
  have e7_14 : h14 (b + 7) = .inl (0, 500, .inl (fun _ => 0)) := by rw [q14]; exact hset_q (by omega) e7_13
  have e0_14 : h14 b = .inr (10, [.ref (b + 1), .ref (b + 2), .ref (b + 3), .ref (b + 4), .int 0, .ref (b + 5), .ref (b + 6), .int 0, .int 0, .ref (b + 7), .int 0, .int 0, .int 0, .int 0, .int 0, .int 0, .int 0, .int 0, .long 0]) := by rw [q14]; exact hset_s
  refine aw_put fp_X10_29_i dX10_init_60 e0_13 (by omega) (ble' rfl) (fun _ => ⟨rfl, rfl⟩) q14.symm ?_
  refine aw_aload_n dX10_init_63 rfl ?_
  refine aw_iconst (v := -1) dX10_init_64 (by decide) ?_
  obtain ⟨h15, q15⟩ : ∃ y9, y9 = hset h14 b (.inr (10, [.ref (b + 1), .ref (b + 2), .ref (b + 3), .ref (b + 4), .int 0, .ref (b + 5), .ref (b + 6), .int 0, .int 0, .ref (b + 7), .int 0, .int 0, .int 0, .int 0, .int 0, .int 0, .int 0, .int (-1), .long 0])) := ⟨_, rfl⟩
  have C15 : HC h15 (b + 8) := by rw [q15]; exact HC.set C14 (sc_r (by omega) (sc_r (by omega) (sc_r (by omega) (sc_r (by omega) (sc_i (sc_r (by omega) (sc_r (by omega) (sc_i (sc_i (sc_r (by omega) (sc_i (sc_i (sc_i (sc_i (sc_i (sc_i (sc_i (sc_i (sc_l sc_nil)))))))))))))))))))
  have o15 : ∀ i, i < b → h15 i = h i := fun i hi => by rw [q15]; exact (hset_n (by omega)).trans (o14 i hi)
  have e1_15 : h15 (b + 1) = .inl (0, 572, .inl (fun _ => 0)) := by rw [q15]; exact hset_q (by omega) e1_14
  have e2_15 : h15 (b + 2) = .inl (0, 572, .inl (fun _ => 0)) := by rw [q15]; exact hset_q (by omega) e2_14
  have e3_15 : h15 (b + 3) = .inl (0, 1144, .inl (fun _ => 0)) := by rw [q15]; exact hset_q (by omega) e3_14
  have e4_15 : h15 (b + 4) = .inl (3, 2, .inl (fun _ => 0)) := by rw [q15]; exact hset_q (by omega) e4_14
  have e5_15 : h15 (b + 5) = .inl (0, 60, .inl (fun _ => 0)) := by rw [q15]; exact hset_q (by omega) e5_14
  have e6_15 : h15 (b + 6) = .inl (0, 16, .inl (fun _ => 0)) := by rw [q15]; exact hset_q (by omega) e6_14
  have e7_15 : h15 (b + 7) = .inl (0, 500, .inl (fun _ => 0)) := by rw [q15]; exact hset_q (by omega) e7_14
  have e0_15 : h15 b = .inr (10, [.ref (b + 1), .ref (b + 2), .ref (b + 3), .ref (b + 4), .int 0, .ref (b + 5), .ref (b + 6), .int 0, .int 0, .ref (b + 7), .int 0, .int 0, .int 0, .int 0, .int 0, .int 0, .int 0, .int (-1), .long 0]) := by rw [q15]; exact hset_s
  refine aw_put fp_X10_32_i dX10_init_65 e0_14 (by omega) (ble' rfl) (fun _ => ⟨rfl, rfl⟩) q15.symm ?_
  refine aw_vret rfl dX10_init_68 (ble' rfl) (ble' rfl) ?_
  exact ⟨rfl, rfl, C15, o15, e0_15, e1_15, e2_15, e3_15, e4_15, e5_15, e6_15, e7_15⟩

def At_X8 (c : Nat) (h : Nat → AE) (b : Nat) : Prop := h b = .inr (8, [.ref c, .ref (b + 1), .int 0]) ∧ h (b + 1) = .inl (0, 999, .inl (fun _ => 0))
theorem At_X8_tr  {c : Nat} {h h' : Nat → AE} {b : Nat} (q : At_X8 c h b) (o : ∀ i, b ≤ i → i < b + 2 → h' i = h i) : At_X8 c h' b := ⟨(o _ (by omega) (by omega)).trans q.1, (o _ (by omega) (by omega)).trans q.2⟩
def IP_X8 (c : Nat) (b : Nat) (h : Nat → AE) : APost := fun o h' n' => o = .inl none ∧ n' = b + 2 ∧ HC h' (b + 2) ∧ (∀ i, i < b → h' i = h i) ∧ At_X8 c h' b
set_option maxRecDepth 100000 in
set_option maxHeartbeats 4000000 in
theorem c_X8_init {h : Nat → AE} {b : Nat} {c : Nat} (hb : b < 850000) (hc9 : c < b) (e0_0 : h b = .inr (8, [.null, .null, .int 0])) (C0 : HC h (b + 1)) : AMet tX8_init yX8_init [Cond.code yX8_init cX8_init 2 none] [.ref b, .ref c] h (b + 1) (IP_X8 c b h) := by
  have o0 : ∀ i, i < b → h i = h i := fun _ _ => rfl
  refine am_of (lo := [_, _]) (by decide) rfl (fun _ => rfl) rfl rfl rfl ?_
  refine aw_aload_n dX8_init_0 rfl ?_
  refine aw_objI kj_X8_3 dX8_init_1 ⟨by decide, by decide⟩ ?_
  refine aw_aload_n dX8_init_4 rfl ?_
  refine aw_sipush (v := 999) dX8_init_5 (by decide) ?_
  refine awn_int (N := 999) (by decide) (by decide) (by decide) dX8_init_8 C0 (by omega) (lc_r (by omega) (lc_r (by omega) lc_nil)) (sc_r (by omega) sc_nil) (by decide) (by decide) ?_
  obtain ⟨h1, q1⟩ : ∃ y9, y9 = hset h (b + 1) (.inl (0, 999, .inl (fun _ => 0))) := ⟨_, rfl⟩
  have C1 : HC h1 (b + 2) := by rw [q1]; exact HC.new C0 trivial
  have o1 : ∀ i, i < b → h1 i = h i := fun i hi => by rw [q1]; exact (hset_n (by omega)).trans (o0 i hi)
  have e0_1 : h1 b = .inr (8, [.null, .null, .int 0]) := by rw [q1]; exact hset_q (by omega) e0_0
  have e1_1 : h1 (b + 1) = .inl (0, 999, .inl (fun _ => 0)) := by rw [q1]; exact hset_s
  refine aw_heq q1.symm ?_
  obtain ⟨h2, q2⟩ : ∃ y9, y9 = hset h1 b (.inr (8, [.null, .ref (b + 1), .int 0])) := ⟨_, rfl⟩
  have C2 : HC h2 (b + 2) := by rw [q2]; exact HC.set C1 (sc_0 (sc_r (by omega) (sc_i sc_nil)))
  have o2 : ∀ i, i < b → h2 i = h i := fun i hi => by rw [q2]; exact (hset_n (by omega)).trans (o1 i hi)
  have e1_2 : h2 (b + 1) = .inl (0, 999, .inl (fun _ => 0)) := by rw [q2]; exact hset_q (by omega) e1_1
  have e0_2 : h2 b = .inr (8, [.null, .ref (b + 1), .int 0]) := by rw [q2]; exact hset_s
  refine aw_put fp_X8_9_i dX8_init_10 e0_1 (by omega) (ble' rfl) (fun _ => ⟨rfl, rfl⟩) q2.symm ?_
  refine aw_aload_n dX8_init_13 rfl ?_
  refine aw_iconst (v := 0) dX8_init_14 (by decide) ?_
  obtain ⟨h3, q3⟩ : ∃ y9, y9 = hset h2 b (.inr (8, [.null, .ref (b + 1), .int 0])) := ⟨_, rfl⟩
  have C3 : HC h3 (b + 2) := by rw [q3]; exact HC.set C2 (sc_0 (sc_r (by omega) (sc_i sc_nil)))
  have o3 : ∀ i, i < b → h3 i = h i := fun i hi => by rw [q3]; exact (hset_n (by omega)).trans (o2 i hi)
  have e1_3 : h3 (b + 1) = .inl (0, 999, .inl (fun _ => 0)) := by rw [q3]; exact hset_q (by omega) e1_2
  have e0_3 : h3 b = .inr (8, [.null, .ref (b + 1), .int 0]) := by rw [q3]; exact hset_s
  refine aw_put fp_X8_15_i dX8_init_15 e0_2 (by omega) (ble' rfl) (fun _ => ⟨rfl, rfl⟩) q3.symm ?_
  refine aw_aload_n dX8_init_18 rfl ?_
  refine aw_aload_n dX8_init_19 rfl ?_
  obtain ⟨h4, q4⟩ : ∃ y9, y9 = hset h3 b (.inr (8, [.ref c, .ref (b + 1), .int 0])) := ⟨_, rfl⟩
  have C4 : HC h4 (b + 2) := by rw [q4]; exact HC.set C3 (sc_r (by omega) (sc_r (by omega) (sc_i sc_nil)))
  have o4 : ∀ i, i < b → h4 i = h i := fun i hi => by rw [q4]; exact (hset_n (by omega)).trans (o3 i hi)
  have e1_4 : h4 (b + 1) = .inl (0, 999, .inl (fun _ => 0)) := by rw [q4]; exact hset_q (by omega) e1_3
  have e0_4 : h4 b = .inr (8, [.ref c, .ref (b + 1), .int 0]) := by rw [q4]; exact hset_s
  refine aw_put fp_X8_19_i dX8_init_20 e0_3 (by omega) (ble' rfl) (fun _ => ⟨rfl, rfl⟩) q4.symm ?_
  refine aw_vret rfl dX8_init_23 (ble' rfl) (ble' rfl) ?_
  exact ⟨rfl, rfl, C4, o4, e0_4, e1_4⟩

def At_X3 (c : Nat) (h : Nat → AE) (b : Nat) : Prop := h b = .inr (3, [.ref c, .ref (b + 1), .ref (b + 2), .int 0, .int 0]) ∧ h (b + 1) = .inl (0, 60, .inl (fun _ => 0)) ∧ h (b + 2) = .inl (0, 16, .inl (fun _ => 0))
theorem At_X3_tr  {c : Nat} {h h' : Nat → AE} {b : Nat} (q : At_X3 c h b) (o : ∀ i, b ≤ i → i < b + 3 → h' i = h i) : At_X3 c h' b := ⟨(o _ (by omega) (by omega)).trans q.1, (o _ (by omega) (by omega)).trans q.2.1, (o _ (by omega) (by omega)).trans q.2.2⟩
def IP_X3 (c : Nat) (b : Nat) (h : Nat → AE) : APost := fun o h' n' => o = .inl none ∧ n' = b + 3 ∧ HC h' (b + 3) ∧ (∀ i, i < b → h' i = h i) ∧ At_X3 c h' b
set_option maxRecDepth 100000 in
set_option maxHeartbeats 4000000 in
theorem c_X3_init {h : Nat → AE} {b : Nat} {c : Nat} (hb : b < 850000) (hc9 : c < b) (e0_0 : h b = .inr (3, [.null, .null, .null, .int 0, .int 0])) (C0 : HC h (b + 1)) : AMet tX3_init yX3_init [Cond.code yX3_init cX3_init 2 none] [.ref b, .ref c] h (b + 1) (IP_X3 c b h) := by
  have o0 : ∀ i, i < b → h i = h i := fun _ _ => rfl
  refine am_of (lo := [_, _]) (by decide) rfl (fun _ => rfl) rfl rfl rfl ?_
  refine aw_aload_n dX3_init_0 rfl ?_
  refine aw_objI kj_X3_3 dX3_init_1 ⟨by decide, by decide⟩ ?_
  refine aw_aload_n dX3_init_4 rfl ?_
  refine aw_bipush (v := 60) dX3_init_5 (by decide) ?_
  refine awn_int (N := 60) (by decide) (by decide) (by decide) dX3_init_7 C0 (by omega) (lc_r (by omega) (lc_r (by omega) lc_nil)) (sc_r (by omega) sc_nil) (by decide) (by decide) ?_
  obtain ⟨h1, q1⟩ : ∃ y9, y9 = hset h (b + 1) (.inl (0, 60, .inl (fun _ => 0))) := ⟨_, rfl⟩
  have C1 : HC h1 (b + 2) := by rw [q1]; exact HC.new C0 trivial
  have o1 : ∀ i, i < b → h1 i = h i := fun i hi => by rw [q1]; exact (hset_n (by omega)).trans (o0 i hi)
  have e0_1 : h1 b = .inr (3, [.null, .null, .null, .int 0, .int 0]) := by rw [q1]; exact hset_q (by omega) e0_0
  have e1_1 : h1 (b + 1) = .inl (0, 60, .inl (fun _ => 0)) := by rw [q1]; exact hset_s
  refine aw_heq q1.symm ?_
  obtain ⟨h2, q2⟩ : ∃ y9, y9 = hset h1 b (.inr (3, [.null, .ref (b + 1), .null, .int 0, .int 0])) := ⟨_, rfl⟩
  have C2 : HC h2 (b + 2) := by rw [q2]; exact HC.set C1 (sc_0 (sc_r (by omega) (sc_0 (sc_i (sc_i sc_nil)))))
  have o2 : ∀ i, i < b → h2 i = h i := fun i hi => by rw [q2]; exact (hset_n (by omega)).trans (o1 i hi)
  have e1_2 : h2 (b + 1) = .inl (0, 60, .inl (fun _ => 0)) := by rw [q2]; exact hset_q (by omega) e1_1
  have e0_2 : h2 b = .inr (3, [.null, .ref (b + 1), .null, .int 0, .int 0]) := by rw [q2]; exact hset_s
  refine aw_put fp_X3_9_i dX3_init_9 e0_1 (by omega) (ble' rfl) (fun _ => ⟨rfl, rfl⟩) q2.symm ?_
  refine aw_aload_n dX3_init_12 rfl ?_
  refine aw_bipush (v := 16) dX3_init_13 (by decide) ?_
  refine awn_int (N := 16) (by decide) (by decide) (by decide) dX3_init_15 C2 (by omega) (lc_r (by omega) (lc_r (by omega) lc_nil)) (sc_r (by omega) sc_nil) (by decide) (by decide) ?_
  obtain ⟨h3, q3⟩ : ∃ y9, y9 = hset h2 (b + 2) (.inl (0, 16, .inl (fun _ => 0))) := ⟨_, rfl⟩
  have C3 : HC h3 (b + 3) := by rw [q3]; exact HC.new C2 trivial
  have o3 : ∀ i, i < b → h3 i = h i := fun i hi => by rw [q3]; exact (hset_n (by omega)).trans (o2 i hi)
  have e0_3 : h3 b = .inr (3, [.null, .ref (b + 1), .null, .int 0, .int 0]) := by rw [q3]; exact hset_q (by omega) e0_2
  have e1_3 : h3 (b + 1) = .inl (0, 60, .inl (fun _ => 0)) := by rw [q3]; exact hset_q (by omega) e1_2
  have e2_3 : h3 (b + 2) = .inl (0, 16, .inl (fun _ => 0)) := by rw [q3]; exact hset_s
  refine aw_heq q3.symm ?_
  obtain ⟨h4, q4⟩ : ∃ y9, y9 = hset h3 b (.inr (3, [.null, .ref (b + 1), .ref (b + 2), .int 0, .int 0])) := ⟨_, rfl⟩
  have C4 : HC h4 (b + 3) := by rw [q4]; exact HC.set C3 (sc_0 (sc_r (by omega) (sc_r (by omega) (sc_i (sc_i sc_nil)))))
  have o4 : ∀ i, i < b → h4 i = h i := fun i hi => by rw [q4]; exact (hset_n (by omega)).trans (o3 i hi)
  have e1_4 : h4 (b + 1) = .inl (0, 60, .inl (fun _ => 0)) := by rw [q4]; exact hset_q (by omega) e1_3
  have e2_4 : h4 (b + 2) = .inl (0, 16, .inl (fun _ => 0)) := by rw [q4]; exact hset_q (by omega) e2_3
  have e0_4 : h4 b = .inr (3, [.null, .ref (b + 1), .ref (b + 2), .int 0, .int 0]) := by rw [q4]; exact hset_s
  refine aw_put fp_X3_15_i dX3_init_17 e0_3 (by omega) (ble' rfl) (fun _ => ⟨rfl, rfl⟩) q4.symm ?_
  refine aw_aload_n dX3_init_20 rfl ?_
  refine aw_iconst (v := 0) dX3_init_21 (by decide) ?_
  obtain ⟨h5, q5⟩ : ∃ y9, y9 = hset h4 b (.inr (3, [.null, .ref (b + 1), .ref (b + 2), .int 0, .int 0])) := ⟨_, rfl⟩
  have C5 : HC h5 (b + 3) := by rw [q5]; exact HC.set C4 (sc_0 (sc_r (by omega) (sc_r (by omega) (sc_i (sc_i sc_nil)))))
  have o5 : ∀ i, i < b → h5 i = h i := fun i hi => by rw [q5]; exact (hset_n (by omega)).trans (o4 i hi)
  have e1_5 : h5 (b + 1) = .inl (0, 60, .inl (fun _ => 0)) := by rw [q5]; exact hset_q (by omega) e1_4
  have e2_5 : h5 (b + 2) = .inl (0, 16, .inl (fun _ => 0)) := by rw [q5]; exact hset_q (by omega) e2_4
  have e0_5 : h5 b = .inr (3, [.null, .ref (b + 1), .ref (b + 2), .int 0, .int 0]) := by rw [q5]; exact hset_s
  refine aw_put fp_X3_18_i dX3_init_22 e0_4 (by omega) (ble' rfl) (fun _ => ⟨rfl, rfl⟩) q5.symm ?_
  refine aw_aload_n dX3_init_25 rfl ?_
  refine aw_iconst (v := 0) dX3_init_26 (by decide) ?_
  obtain ⟨h6, q6⟩ : ∃ y9, y9 = hset h5 b (.inr (3, [.null, .ref (b + 1), .ref (b + 2), .int 0, .int 0])) := ⟨_, rfl⟩
  have C6 : HC h6 (b + 3) := by rw [q6]; exact HC.set C5 (sc_0 (sc_r (by omega) (sc_r (by omega) (sc_i (sc_i sc_nil)))))
  have o6 : ∀ i, i < b → h6 i = h i := fun i hi => by rw [q6]; exact (hset_n (by omega)).trans (o5 i hi)
  have e1_6 : h6 (b + 1) = .inl (0, 60, .inl (fun _ => 0)) := by rw [q6]; exact hset_q (by omega) e1_5
  have e2_6 : h6 (b + 2) = .inl (0, 16, .inl (fun _ => 0)) := by rw [q6]; exact hset_q (by omega) e2_5
  have e0_6 : h6 b = .inr (3, [.null, .ref (b + 1), .ref (b + 2), .int 0, .int 0]) := by rw [q6]; exact hset_s
  refine aw_put fp_X3_22_i dX3_init_27 e0_5 (by omega) (ble' rfl) (fun _ => ⟨rfl, rfl⟩) q6.symm ?_
  refine aw_aload_n dX3_init_30 rfl ?_
  refine aw_aload_n dX3_init_31 rfl ?_
  obtain ⟨h7, q7⟩ : ∃ y9, y9 = hset h6 b (.inr (3, [.ref c, .ref (b + 1), .ref (b + 2), .int 0, .int 0])) := ⟨_, rfl⟩
  have C7 : HC h7 (b + 3) := by rw [q7]; exact HC.set C6 (sc_r (by omega) (sc_r (by omega) (sc_r (by omega) (sc_i (sc_i sc_nil)))))
  have o7 : ∀ i, i < b → h7 i = h i := fun i hi => by rw [q7]; exact (hset_n (by omega)).trans (o6 i hi)
  have e1_7 : h7 (b + 1) = .inl (0, 60, .inl (fun _ => 0)) := by rw [q7]; exact hset_q (by omega) e1_6
  have e2_7 : h7 (b + 2) = .inl (0, 16, .inl (fun _ => 0)) := by rw [q7]; exact hset_q (by omega) e2_6
  have e0_7 : h7 b = .inr (3, [.ref c, .ref (b + 1), .ref (b + 2), .int 0, .int 0]) := by rw [q7]; exact hset_s
  refine aw_put fp_X3_25_i dX3_init_32 e0_6 (by omega) (ble' rfl) (fun _ => ⟨rfl, rfl⟩) q7.symm ?_
  refine aw_vret rfl dX3_init_35 (ble' rfl) (ble' rfl) ?_
  exact ⟨rfl, rfl, C7, o7, e0_7, e1_7, e2_7⟩

def At_X6 (tx : Nat) (c : Nat) (h : Nat → AE) (b : Nat) : Prop := h b = .inr (6, [.ref tx, .ref c, .int 0, .int 0, .int 0, .int 0, .int 0, .int 0, .int (-1)])
theorem At_X6_tr  {tx : Nat} {c : Nat} {h h' : Nat → AE} {b : Nat} (q : At_X6 tx c h b) (o : ∀ i, b ≤ i → i < b + 1 → h' i = h i) : At_X6 tx c h' b := (o _ (by omega) (by omega)).trans q
def IP_X6 (tx : Nat) (c : Nat) (b : Nat) (h : Nat → AE) : APost := fun o h' n' => o = .inl none ∧ n' = b + 1 ∧ HC h' (b + 1) ∧ (∀ i, i < b → h' i = h i) ∧ At_X6 tx c h' b
set_option maxRecDepth 100000 in
set_option maxHeartbeats 4000000 in
theorem c_X6_init {h : Nat → AE} {b : Nat} {tx : Nat} {c : Nat} (hb : b < 850000) (htx9 : tx < b) (hc9 : c < b) (e0_0 : h b = .inr (6, [.null, .null, .int 0, .int 0, .int 0, .int 0, .int 0, .int 0, .int 0])) (C0 : HC h (b + 1)) : AMet tX6_init yX6_init [Cond.code yX6_init cX6_init 3 none] [.ref b, .ref tx, .ref c] h (b + 1) (IP_X6 tx c b h) := by
  have o0 : ∀ i, i < b → h i = h i := fun _ _ => rfl
  refine am_of (lo := [_, _, _]) (by decide) rfl (fun _ => rfl) rfl rfl rfl ?_
  refine aw_aload_n dX6_init_0 rfl ?_
  refine aw_objI kj_X6_3 dX6_init_1 ⟨by decide, by decide⟩ ?_
  refine aw_aload_n dX6_init_4 rfl ?_
  refine aw_iconst (v := 0) dX6_init_5 (by decide) ?_
  obtain ⟨h1, q1⟩ : ∃ y9, y9 = hset h b (.inr (6, [.null, .null, .int 0, .int 0, .int 0, .int 0, .int 0, .int 0, .int 0])) := ⟨_, rfl⟩
  have C1 : HC h1 (b + 1) := by rw [q1]; exact HC.set C0 (sc_0 (sc_0 (sc_i (sc_i (sc_i (sc_i (sc_i (sc_i (sc_i sc_nil)))))))))
  have o1 : ∀ i, i < b → h1 i = h i := fun i hi => by rw [q1]; exact (hset_n (by omega)).trans (o0 i hi)
  have e0_1 : h1 b = .inr (6, [.null, .null, .int 0, .int 0, .int 0, .int 0, .int 0, .int 0, .int 0]) := by rw [q1]; exact hset_s
  refine aw_put fp_X6_9_i dX6_init_6 e0_0 (by omega) (ble' rfl) (fun _ => ⟨rfl, rfl⟩) q1.symm ?_
  refine aw_aload_n dX6_init_9 rfl ?_
  refine aw_iconst (v := 0) dX6_init_10 (by decide) ?_
  obtain ⟨h2, q2⟩ : ∃ y9, y9 = hset h1 b (.inr (6, [.null, .null, .int 0, .int 0, .int 0, .int 0, .int 0, .int 0, .int 0])) := ⟨_, rfl⟩
  have C2 : HC h2 (b + 1) := by rw [q2]; exact HC.set C1 (sc_0 (sc_0 (sc_i (sc_i (sc_i (sc_i (sc_i (sc_i (sc_i sc_nil)))))))))
  have o2 : ∀ i, i < b → h2 i = h i := fun i hi => by rw [q2]; exact (hset_n (by omega)).trans (o1 i hi)
  have e0_2 : h2 b = .inr (6, [.null, .null, .int 0, .int 0, .int 0, .int 0, .int 0, .int 0, .int 0]) := by rw [q2]; exact hset_s
  refine aw_put fp_X6_15_i dX6_init_11 e0_1 (by omega) (ble' rfl) (fun _ => ⟨rfl, rfl⟩) q2.symm ?_
  refine aw_aload_n dX6_init_14 rfl ?_
  refine aw_iconst (v := 0) dX6_init_15 (by decide) ?_
  obtain ⟨h3, q3⟩ : ∃ y9, y9 = hset h2 b (.inr (6, [.null, .null, .int 0, .int 0, .int 0, .int 0, .int 0, .int 0, .int 0])) := ⟨_, rfl⟩
  have C3 : HC h3 (b + 1) := by rw [q3]; exact HC.set C2 (sc_0 (sc_0 (sc_i (sc_i (sc_i (sc_i (sc_i (sc_i (sc_i sc_nil)))))))))
  have o3 : ∀ i, i < b → h3 i = h i := fun i hi => by rw [q3]; exact (hset_n (by omega)).trans (o2 i hi)
  have e0_3 : h3 b = .inr (6, [.null, .null, .int 0, .int 0, .int 0, .int 0, .int 0, .int 0, .int 0]) := by rw [q3]; exact hset_s
  refine aw_put fp_X6_18_i dX6_init_16 e0_2 (by omega) (ble' rfl) (fun _ => ⟨rfl, rfl⟩) q3.symm ?_
  refine aw_aload_n dX6_init_19 rfl ?_
  refine aw_iconst (v := 0) dX6_init_20 (by decide) ?_
  obtain ⟨h4, q4⟩ : ∃ y9, y9 = hset h3 b (.inr (6, [.null, .null, .int 0, .int 0, .int 0, .int 0, .int 0, .int 0, .int 0])) := ⟨_, rfl⟩
  have C4 : HC h4 (b + 1) := by rw [q4]; exact HC.set C3 (sc_0 (sc_0 (sc_i (sc_i (sc_i (sc_i (sc_i (sc_i (sc_i sc_nil)))))))))
  have o4 : ∀ i, i < b → h4 i = h i := fun i hi => by rw [q4]; exact (hset_n (by omega)).trans (o3 i hi)
  have e0_4 : h4 b = .inr (6, [.null, .null, .int 0, .int 0, .int 0, .int 0, .int 0, .int 0, .int 0]) := by rw [q4]; exact hset_s
  refine aw_put fp_X6_21_i dX6_init_21 e0_3 (by omega) (ble' rfl) (fun _ => ⟨rfl, rfl⟩) q4.symm ?_
  refine aw_aload_n dX6_init_24 rfl ?_
  refine aw_iconst (v := 0) dX6_init_25 (by decide) ?_
  obtain ⟨h5, q5⟩ : ∃ y9, y9 = hset h4 b (.inr (6, [.null, .null, .int 0, .int 0, .int 0, .int 0, .int 0, .int 0, .int 0])) := ⟨_, rfl⟩
  have C5 : HC h5 (b + 1) := by rw [q5]; exact HC.set C4 (sc_0 (sc_0 (sc_i (sc_i (sc_i (sc_i (sc_i (sc_i (sc_i sc_nil)))))))))
  have o5 : ∀ i, i < b → h5 i = h i := fun i hi => by rw [q5]; exact (hset_n (by omega)).trans (o4 i hi)
  have e0_5 : h5 b = .inr (6, [.null, .null, .int 0, .int 0, .int 0, .int 0, .int 0, .int 0, .int 0]) := by rw [q5]; exact hset_s
  refine aw_put fp_X6_24_i dX6_init_26 e0_4 (by omega) (ble' rfl) (fun _ => ⟨rfl, rfl⟩) q5.symm ?_
  refine aw_aload_n dX6_init_29 rfl ?_
  refine aw_iconst (v := 0) dX6_init_30 (by decide) ?_
  obtain ⟨h6, q6⟩ : ∃ y9, y9 = hset h5 b (.inr (6, [.null, .null, .int 0, .int 0, .int 0, .int 0, .int 0, .int 0, .int 0])) := ⟨_, rfl⟩
  have C6 : HC h6 (b + 1) := by rw [q6]; exact HC.set C5 (sc_0 (sc_0 (sc_i (sc_i (sc_i (sc_i (sc_i (sc_i (sc_i sc_nil)))))))))
  have o6 : ∀ i, i < b → h6 i = h i := fun i hi => by rw [q6]; exact (hset_n (by omega)).trans (o5 i hi)
  have e0_6 : h6 b = .inr (6, [.null, .null, .int 0, .int 0, .int 0, .int 0, .int 0, .int 0, .int 0]) := by rw [q6]; exact hset_s
  refine aw_put fp_X6_27_i dX6_init_31 e0_5 (by omega) (ble' rfl) (fun _ => ⟨rfl, rfl⟩) q6.symm ?_
  refine aw_aload_n dX6_init_34 rfl ?_
  refine aw_iconst (v := -1) dX6_init_35 (by decide) ?_
  obtain ⟨h7, q7⟩ : ∃ y9, y9 = hset h6 b (.inr (6, [.null, .null, .int 0, .int 0, .int 0, .int 0, .int 0, .int 0, .int (-1)])) := ⟨_, rfl⟩
  have C7 : HC h7 (b + 1) := by rw [q7]; exact HC.set C6 (sc_0 (sc_0 (sc_i (sc_i (sc_i (sc_i (sc_i (sc_i (sc_i sc_nil)))))))))
  have o7 : ∀ i, i < b → h7 i = h i := fun i hi => by rw [q7]; exact (hset_n (by omega)).trans (o6 i hi)
  have e0_7 : h7 b = .inr (6, [.null, .null, .int 0, .int 0, .int 0, .int 0, .int 0, .int 0, .int (-1)]) := by rw [q7]; exact hset_s
  refine aw_put fp_X6_30_i dX6_init_36 e0_6 (by omega) (ble' rfl) (fun _ => ⟨rfl, rfl⟩) q7.symm ?_
  refine aw_aload_n dX6_init_39 rfl ?_
  refine aw_aload_n dX6_init_40 rfl ?_
  obtain ⟨h8, q8⟩ : ∃ y9, y9 = hset h7 b (.inr (6, [.ref tx, .null, .int 0, .int 0, .int 0, .int 0, .int 0, .int 0, .int (-1)])) := ⟨_, rfl⟩
  have C8 : HC h8 (b + 1) := by rw [q8]; exact HC.set C7 (sc_r (by omega) (sc_0 (sc_i (sc_i (sc_i (sc_i (sc_i (sc_i (sc_i sc_nil)))))))))
  have o8 : ∀ i, i < b → h8 i = h i := fun i hi => by rw [q8]; exact (hset_n (by omega)).trans (o7 i hi)
  have e0_8 : h8 b = .inr (6, [.ref tx, .null, .int 0, .int 0, .int 0, .int 0, .int 0, .int 0, .int (-1)]) := by rw [q8]; exact hset_s
  refine aw_put fp_X6_33_i dX6_init_41 e0_7 (by omega) (ble' rfl) (fun _ => ⟨rfl, rfl⟩) q8.symm ?_
  refine aw_aload_n dX6_init_44 rfl ?_
  refine aw_aload_n dX6_init_45 rfl ?_
  obtain ⟨h9, q9⟩ : ∃ y9, y9 = hset h8 b (.inr (6, [.ref tx, .ref c, .int 0, .int 0, .int 0, .int 0, .int 0, .int 0, .int (-1)])) := ⟨_, rfl⟩
  have C9 : HC h9 (b + 1) := by rw [q9]; exact HC.set C8 (sc_r (by omega) (sc_r (by omega) (sc_i (sc_i (sc_i (sc_i (sc_i (sc_i (sc_i sc_nil)))))))))
  have o9 : ∀ i, i < b → h9 i = h i := fun i hi => by rw [q9]; exact (hset_n (by omega)).trans (o8 i hi)
  have e0_9 : h9 b = .inr (6, [.ref tx, .ref c, .int 0, .int 0, .int 0, .int 0, .int 0, .int 0, .int (-1)]) := by rw [q9]; exact hset_s
  refine aw_put fp_X6_37_i dX6_init_46 e0_8 (by omega) (ble' rfl) (fun _ => ⟨rfl, rfl⟩) q9.symm ?_
  refine aw_vret rfl dX6_init_49 (ble' rfl) (ble' rfl) ?_
  exact ⟨rfl, rfl, C9, o9, e0_9⟩
