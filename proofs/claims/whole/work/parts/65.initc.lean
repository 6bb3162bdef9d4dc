def At_X9 (h : Nat → AE) (b : Nat) : Prop := h b = .inr (9, [.ref (b + 1), .ref (b + 28), .ref (b + 55), .ref (b + 56), .ref (b + 58), .ref (b + 61), .ref (b + 62), .int 0]) ∧ At_X1 h (b + 1) ∧ At_X1 h (b + 28) ∧ h (b + 55) = .inl (4, 2, .inr (.inr (.inr (.inr (fun _ => none))))) ∧ At_X8 (b + 1) h (b + 56) ∧ At_X3 (b + 1) h (b + 58) ∧ h (b + 61) = .inl (1, 500, .inl (fun _ => 0)) ∧ At_X6 (b + 61) (b + 28) h (b + 62)
theorem At_X9_tr  {h h' : Nat → AE} {b : Nat} (q : At_X9 h b) (o : ∀ i, b ≤ i → i < b + 63 → h' i = h i) : At_X9 h' b := ⟨(o _ (by omega) (by omega)).trans q.1, At_X1_tr q.2.1 (fun i q1 q2 => o i (by omega) (by omega)), At_X1_tr q.2.2.1 (fun i q1 q2 => o i (by omega) (by omega)), (o _ (by omega) (by omega)).trans q.2.2.2.1, At_X8_tr q.2.2.2.2.1 (fun i q1 q2 => o i (by omega) (by omega)), At_X3_tr q.2.2.2.2.2.1 (fun i q1 q2 => o i (by omega) (by omega)), (o _ (by omega) (by omega)).trans q.2.2.2.2.2.2.1, At_X6_tr q.2.2.2.2.2.2.2 (fun i q1 q2 => o i (by omega) (by omega))⟩
def IP_X9 (b : Nat) (h : Nat → AE) : APost := fun o h' n' => o = .inl none ∧ n' = b + 63 ∧ HC h' (b + 63) ∧ (∀ i, i < b → h' i = h i) ∧ At_X9 h' b
set_option maxRecDepth 100000 in
set_option maxHeartbeats 4000000 in
theorem c_X9_init {h : Nat → AE} {b : Nat} (hb : b < 700000)  (e0_0 : h b = .inr (9, [.null, .null, .null, .null, .null, .null, .null, .int 0])) (C0 : HC h (b + 1)) : AMet tX9_init yX9_init [Cond.code yX9_init cX9_init 1 none] [.ref b] h (b + 1) (IP_X9 b h) := by
  have o0 : ∀ i, i < b → h i = h i := fun _ _ => rfl
  refine am_of (lo := [_]) (by decide) rfl (fun _ => rfl) rfl rfl rfl ?_
  refine aw_aload_n dX9_init_0 rfl ?_
  refine aw_objI kj_X9_1 dX9_init_1 ⟨by decide, by decide⟩ ?_
  refine aw_aload_n dX9_init_4 rfl ?_
  refine aw_new nw_X9_7 dX9_init_5 C0 (by omega) (lc_r (by omega) lc_nil) (sc_r (by omega) sc_nil) (by decide) (by decide) ?_
  obtain ⟨h1, q1⟩ : ∃ y9, y9 = hset h (b + 1) (.inr (1, [.null, .null, .null, .null, .null, .int 0])) := ⟨_, rfl⟩
  have C1 : HC h1 (b + 2) := by rw [q1]; exact HC.new C0 (sc_0 (sc_0 (sc_0 (sc_0 (sc_0 (sc_i sc_nil))))))
  have o1 : ∀ i, i < b → h1 i = h i := fun i hi => by rw [q1]; exact (hset_n (by omega)).trans (o0 i hi)
  have e0_1 : h1 b = .inr (9, [.null, .null, .null, .null, .null, .null, .null, .int 0]) := by rw [q1]; exact hset_q (by omega) e0_0
  have e1_1 : h1 (b + 1) = .inr (1, [.null, .null, .null, .null, .null, .int 0]) := by rw [q1]; exact hset_s
  refine aw_heq q1.symm ?_
  refine aw_dup dX9_init_8 rfl ?_
  refine aw_callI ki_X9_9 ko_X1_init (c_X1_init (b := (b + 1))  (by omega)  e1_1 C1) dX9_init_9 rfl rfl (ble' rfl) (by decide) (lc_r (by omega) lc_nil) (sc_r (by omega) (sc_r (by omega) sc_nil)) (fun E h' n' q => by cases q.1) (fun v h' n' hp _ _ => ?_)
  obtain ⟨hv, rfl, C2, oo, a1_2⟩ := hp
  cases hv
  obtain ⟨h2, rfl⟩ : ∃ y9, y9 = h' := ⟨_, rfl⟩
  have C2 : HC h2 (b + 28) := C2
  have o2 : ∀ i, i < b → h2 i = h i := fun i hi => (oo i (by omega)).trans (o1 i hi)
  have e0_2 : h2 b = .inr (9, [.null, .null, .null, .null, .null, .null, .null, .int 0]) := (oo _ (by omega)).trans e0_1
  refine aw_nq (n' := (b + 28)) (by omega) ?_
  obtain ⟨h3, q3⟩ : ∃ y9, y9 = hset h2 b (.inr (9, [.ref (b + 1), .null, .null, .null, .null, .null, .null, .int 0])) := ⟨_, rfl⟩
  have C3 : HC h3 (b + 28) := by rw [q3]; exact HC.set C2 (sc_r (by omega) (sc_0 (sc_0 (sc_0 (sc_0 (sc_0 (sc_0 (sc_i sc_nil))))))))
  have o3 : ∀ i, i < b → h3 i = h i := fun i hi => by rw [q3]; exact (hset_n (by omega)).trans (o2 i hi)
  have a1_3 : At_X1 h3 (b + 1) := At_X1_tr a1_2 (fun i q1 q2 => by rw [q3]; exact hset_n (by omega))
  have e0_3 : h3 b = .inr (9, [.ref (b + 1), .null, .null, .null, .null, .null, .null, .int 0]) := by rw [q3]; exact hset_s
  refine aw_put fp_X9_10_i dX9_init_12 e0_2 (by omega) (ble' rfl) (fun _ => ⟨rfl, rfl⟩) q3.symm ?_
  refine aw_aload_n dX9_init_15 rfl ?_
  refine aw_new nw_X9_7 dX9_init_16 C3 (by omega) (lc_r (by omega) lc_nil) (sc_r (by omega) sc_nil) (by decide) (by decide) ?_
  obtain ⟨h4, q4⟩ : ∃ y9, y9 = hset h3 (b + 28) (.inr (1, [.null, .null, .null, .null, .null, .int 0])) := ⟨_, rfl⟩
  have C4 : HC h4 (b + 29) := by rw [q4]; exact HC.new C3 (sc_0 (sc_0 (sc_0 (sc_0 (sc_0 (sc_i sc_nil))))))
  have o4 : ∀ i, i < b → h4 i = h i := fun i hi => by rw [q4]; exact (hset_n (by omega)).trans (o3 i hi)
  have e0_4 : h4 b = .inr (9, [.ref (b + 1), .null, .null, .null, .null, .null, .null, .int 0]) := by rw [q4]; exact hset_q (by omega) e0_3
  have a1_4 : At_X1 h4 (b + 1) := At_X1_tr a1_3 (fun i q1 q2 => by rw [q4]; exact hset_n (by omega))
  have e28_4 : h4 (b + 28) = .inr (1, [.null, .null, .null, .null, .null, .int 0]) := by rw [q4]; exact hset_s
  refine aw_heq q4.symm ?_
  refine aw_dup dX9_init_19 rfl ?_
  refine aw_callI ki_X9_9 ko_X1_init (c_X1_init (b := (b + 28))  (by omega)  e28_4 C4) dX9_init_20 rfl rfl (ble' rfl) (by decide) (lc_r (by omega) lc_nil) (sc_r (by omega) (sc_r (by omega) sc_nil)) (fun E h' n' q => by cases q.1) (fun v h' n' hp _ _ => ?_)
  obtain ⟨hv, rfl, C5, oo, a28_5⟩ := hp
  cases hv
  obtain ⟨h5, rfl⟩ : ∃ y9, y9 = h' := ⟨_, rfl⟩
  have C5 : HC h5 (b + 55) := C5
  have o5 : ∀ i, i < b → h5 i = h i := fun i hi => (oo i (by omega)).trans (o4 i hi)
  have e0_5 : h5 b = .inr (9, [.ref (b + 1), .null, .null, .null, .null, .null, .null, .int 0]) := (oo _ (by omega)).trans e0_4
  have a1_5 : At_X1 h5 (b + 1) := At_X1_tr a1_4 (fun i q1 q2 => oo i (by omega))
  refine aw_nq (n' := (b + 55)) (by omega) ?_
  obtain ⟨h6, q6⟩ : ∃ y9, y9 = hset h5 b (.inr (9, [.ref (b + 1), .ref (b + 28), .null, .null, .null, .null, .null, .int 0])) := ⟨_, rfl⟩
  have C6 : HC h6 (b + 55) := by rw [q6]; exact HC.set C5 (sc_r (by omega) (sc_r (by omega) (sc_0 (sc_0 (sc_0 (sc_0 (sc_0 (sc_i sc_nil))))))))
  have o6 : ∀ i, i < b → h6 i = h i := fun i hi => by rw [q6]; exact (hset_n (by omega)).trans (o5 i hi)
  have a1_6 : At_X1 h6 (b + 1) := At_X1_tr a1_5 (fun i q1 q2 => by rw [q6]; exact hset_n (by omega))
  have a28_6 : At_X1 h6 (b + 28) := At_X1_tr a28_5 (fun i q1 q2 => by rw [q6]; exact hset_n (by omega))
  have e0_6 : h6 b = .inr (9, [.ref (b + 1), .ref (b + 28), .null, .null, .null, .null, .null, .int 0]) := by rw [q6]; exact hset_s
  refine aw_put fp_X9_16_i dX9_init_23 e0_5 (by omega) (ble' rfl) (fun _ => ⟨rfl, rfl⟩) q6.symm ?_
  refine aw_aload_n dX9_init_26 rfl ?_
  refine aw_iconst (v := 2) dX9_init_27 (by decide) ?_
  refine aw_newq (N := 2) (gw_at 160 (by decide +kernel) rfl) (by decide) (by decide) (by decide) dX9_init_28 C6 (by omega) (lc_r (by omega) lc_nil) (sc_r (by omega) sc_nil) (by decide) (by decide) ?_
  obtain ⟨h7, q7⟩ : ∃ y9, y9 = hset h6 (b + 55) (.inl (4, 2, .inr (.inr (.inr (.inr (fun _ => none)))))) := ⟨_, rfl⟩
  have C7 : HC h7 (b + 56) := by rw [q7]; exact HC.new C6 (fun _ _ q => by cases q)
  have o7 : ∀ i, i < b → h7 i = h i := fun i hi => by rw [q7]; exact (hset_n (by omega)).trans (o6 i hi)
  have e0_7 : h7 b = .inr (9, [.ref (b + 1), .ref (b + 28), .null, .null, .null, .null, .null, .int 0]) := by rw [q7]; exact hset_q (by omega) e0_6
  have a1_7 : At_X1 h7 (b + 1) := At_X1_tr a1_6 (fun i q1 q2 => by rw [q7]; exact hset_n (by omega))
  have a28_7 : At_X1 h7 (b + 28) := At_X1_tr a28_6 (fun i q1 q2 => by rw [q7]; exact hset_n (by omega))
  have e55_7 : h7 (b + 55) = .inl (4, 2, .inr (.inr (.inr (.inr (fun _ => none))))) := by rw [q7]; exact hset_s
  refine aw_heq q7.symm ?_
  obtain ⟨h8, q8⟩ : ∃ y9, y9 = hset h7 b (.inr (9, [.ref (b + 1), .ref (b + 28), .ref (b + 55), .null, .null, .null, .null, .int 0])) := ⟨_, rfl⟩
  have C8 : HC h8 (b + 56) := by rw [q8]; exact HC.set C7 (sc_r (by omega) (sc_r (by omega) (sc_r (by omega) (sc_0 (sc_0 (sc_0 (sc_0 (sc_i sc_nil))))))))
  have o8 : ∀ i, i < b → h8 i = h i := fun i hi => by rw [q8]; exact (hset_n (by omega)).trans (o7 i hi)
  have e55_8 : h8 (b + 55) = .inl (4, 2, .inr (.inr (.inr (.inr (fun _ => none))))) := by rw [q8]; exact hset_q (by omega) e55_7
  have a1_8 : At_X1 h8 (b + 1) := At_X1_tr a1_7 (fun i q1 q2 => by rw [q8]; exact hset_n (by omega))
  have a28_8 : At_X1 h8 (b + 28) := At_X1_tr a28_7 (fun i q1 q2 => by rw [q8]; exact hset_n (by omega))
  have e0_8 : h8 b = .inr (9, [.ref (b + 1), .ref (b + 28), .ref (b + 55), .null, .null, .null, .null, .int 0]) := by rw [q8]; exact hset_s
  refine aw_put fp_X9_19_i dX9_init_31 e0_7 (by omega) (ble' rfl) (fun _ => ⟨rfl, rfl⟩) q8.symm ?_
  refine aw_aload_n dX9_init_34 rfl ?_
  refine aw_new nw_X9_23 dX9_init_35 C8 (by omega) (lc_r (by omega) lc_nil) (sc_r (by omega) sc_nil) (by decide) (by decide) ?_
  obtain ⟨h9, q9⟩ : ∃ y9, y9 = hset h8 (b + 56) (.inr (8, [.null, .null, .int 0])) := ⟨_, rfl⟩
  have C9 : HC h9 (b + 57) := by rw [q9]; exact HC.new C8 (sc_0 (sc_0 (sc_i sc_nil)))
  have o9 : ∀ i, i < b → h9 i = h i := fun i hi => by rw [q9]; exact (hset_n (by omega)).trans (o8 i hi)
  have e0_9 : h9 b = .inr (9, [.ref (b + 1), .ref (b + 28), .ref (b + 55), .null, .null, .null, .null, .int 0]) := by rw [q9]; exact hset_q (by omega) e0_8
  have e55_9 : h9 (b + 55) = .inl (4, 2, .inr (.inr (.inr (.inr (fun _ => none))))) := by rw [q9]; exact hset_q (by omega) e55_8
  have a1_9 : At_X1 h9 (b + 1) := At_X1_tr a1_8 (fun i q1 q2 => by rw [q9]; exact hset_n (by omega))
  have a28_9 : At_X1 h9 (b + 28) := At_X1_tr a28_8 (fun i q1 q2 => by rw [q9]; exact hset_n (by omega))
  have e56_9 : h9 (b + 56) = .inr (8, [.null, .null, .int 0]) := by rw [q9]; exact hset_s
  refine aw_heq q9.symm ?_
  refine aw_dup dX9_init_38 rfl ?_
  refine aw_aload_n dX9_init_39 rfl ?_
  refine aw_get fl_X9_10 dX9_init_40 e0_9 (by omega) rfl ?_
  refine aw_callI ki_X9_25 ko_X8_init (c_X8_init (b := (b + 56)) (c := (b + 1)) (by omega) (by omega) e56_9 C9) dX9_init_43 rfl rfl (ble' rfl) (by decide) (lc_r (by omega) lc_nil) (sc_r (by omega) (sc_r (by omega) sc_nil)) (fun E h' n' q => by cases q.1) (fun v h' n' hp _ _ => ?_)
  obtain ⟨hv, rfl, C10, oo, a56_10⟩ := hp
  cases hv
  obtain ⟨h10, rfl⟩ : ∃ y9, y9 = h' := ⟨_, rfl⟩
  have C10 : HC h10 (b + 58) := C10
  have o10 : ∀ i, i < b → h10 i = h i := fun i hi => (oo i (by omega)).trans (o9 i hi)
  have e0_10 : h10 b = .inr (9, [.ref (b + 1), .ref (b + 28), .ref (b + 55), .null, .null, .null, .null, .int 0]) := (oo _ (by omega)).trans e0_9
  have e55_10 : h10 (b + 55) = .inl (4, 2, .inr (.inr (.inr (.inr (fun _ => none))))) := (oo _ (by omega)).trans e55_9
  have a1_10 : At_X1 h10 (b + 1) := At_X1_tr a1_9 (fun i q1 q2 => oo i (by omega))
  have a28_10 : At_X1 h10 (b + 28) := At_X1_tr a28_9 (fun i q1 q2 => oo i (by omega))
  refine aw_nq (n' := (b + 58)) (by omega) ?_
  obtain ⟨h11, q11⟩ : ∃ y9, y9 = hset h10 b (.inr (9, [.ref (b + 1), .ref (b + 28), .ref (b + 55), .ref (b + 56), .null, .null, .null, .int 0])) := ⟨_, rfl⟩
  have C11 : HC h11 (b + 58) := by rw [q11]; exact HC.set C10 (sc_r (by omega) (sc_r (by omega) (sc_r (by omega) (sc_r (by omega) (sc_0 (sc_0 (sc_0 (sc_i sc_nil))))))))
  have o11 : ∀ i, i < b → h11 i = h i := fun i hi => by rw [q11]; exact (hset_n (by omega)).trans (o10 i hi)
  have e55_11 : h11 (b + 55) = .inl (4, 2, .inr (.inr (.inr (.inr (fun _ => none))))) := by rw [q11]; exact hset_q (by omega) e55_10
  have a1_11 : At_X1 h11 (b + 1) := At_X1_tr a1_10 (fun i q1 q2 => by rw [q11]; exact hset_n (by omega))
  have a28_11 : At_X1 h11 (b + 28) := At_X1_tr a28_10 (fun i q1 q2 => by rw [q11]; exact hset_n (by omega))
  have a56_11 : At_X8 (b + 1) h11 (b + 56) := At_X8_tr a56_10 (fun i q1 q2 => by rw [q11]; exact hset_n (by omega))
  have e0_11 : h11 b = .inr (9, [.ref (b + 1), .ref (b + 28), .ref (b + 55), .ref (b + 56), .null, .null, .null, .int 0]) := by rw [q11]; exact hset_s
  refine aw_put fp_X9_28_i dX9_init_46 e0_10 (by omega) (ble' rfl) (fun _ => ⟨rfl, rfl⟩) q11.symm ?_
  refine aw_aload_n dX9_init_49 rfl ?_
  refine aw_new nw_X9_32 dX9_init_50 C11 (by omega) (lc_r (by omega) lc_nil) (sc_r (by omega) sc_nil) (by decide) (by decide) ?_
  obtain ⟨h12, q12⟩ : ∃ y9, y9 = hset h11 (b + 58) (.inr (3, [.null, .null, .null, .int 0, .int 0])) := ⟨_, rfl⟩
  have C12 : HC h12 (b + 59) := by rw [q12]; exact HC.new C11 (sc_0 (sc_0 (sc_0 (sc_i (sc_i sc_nil)))))
  have o12 : ∀ i, i < b → h12 i = h i := fun i hi => by rw [q12]; exact (hset_n (by omega)).trans (o11 i hi)
  have e0_12 : h12 b = .inr (9, [.ref (b + 1), .ref (b + 28), .ref (b + 55), .ref (b + 56), .null, .null, .null, .int 0]) := by rw [q12]; exact hset_q (by omega) e0_11
  have e55_12 : h12 (b + 55) = .inl (4, 2, .inr (.inr (.inr (.inr (fun _ => none))))) := by rw [q12]; exact hset_q (by omega) e55_11
  have a1_12 : At_X1 h12 (b + 1) := At_X1_tr a1_11 (fun i q1 q2 => by rw [q12]; exact hset_n (by omega))
  have a28_12 : At_X1 h12 (b + 28) := At_X1_tr a28_11 (fun i q1 q2 => by rw [q12]; exact hset_n (by omega))
  have a56_12 : At_X8 (b + 1) h12 (b + 56) := At_X8_tr a56_11 (fun i q1 q2 => by rw [q12]; exact hset_n (by omega))
  have e58_12 : h12 (b + 58) = .inr (3, [.null, .null, .null, .int 0, .int 0]) := by rw [q12]; exact hset_s
  refine aw_heq q12.symm ?_
  refine aw_dup dX9_init_53 rfl ?_
  refine aw_aload_n dX9_init_54 rfl ?_
  refine aw_get fl_X9_10 dX9_init_55 e0_12 (by omega) rfl ?_
  refine aw_callI ki_X9_34 ko_X3_init (c_X3_init (b := (b + 58)) (c := (b + 1)) (by omega) (by omega) e58_12 C12) dX9_init_58 rfl rfl (ble' rfl) (by decide) (lc_r (by omega) lc_nil) (sc_r (by omega) (sc_r (by omega) sc_nil)) (fun E h' n' q => by cases q.1) (fun v h' n' hp _ _ => ?_)
  obtain ⟨hv, rfl, C13, oo, a58_13⟩ := hp
  cases hv
  obtain ⟨h13, rfl⟩ : ∃ y9, y9 = h' := ⟨_, rfl⟩
  have C13 : HC h13 (b + 61) := C13
  have o13 : ∀ i, i < b → h13 i = h i := fun i hi => (oo i (by omega)).trans (o12 i hi)
  have e0_13 : h13 b = .inr (9, [.ref (b + 1), .ref (b + 28), .ref (b + 55), .ref (b + 56), .null, .null, .null, .int 0]) := (oo _ (by omega)).trans e0_12
  have e55_13 : h13 (b + 55) = .inl (4, 2, .inr (.inr (.inr (.inr (fun _ => none))))) := (oo _ (by omega)).trans e55_12
  have a1_13 : At_X1 h13 (b + 1) := At_X1_tr a1_12 (fun i q1 q2 => oo i (by omega))
  have a28_13 : At_X1 h13 (b + 28) := At_X1_tr a28_12 (fun i q1 q2 => oo i (by omega))
  have a56_13 : At_X8 (b + 1) h13 (b + 56) := At_X8_tr a56_12 (fun i q1 q2 => oo i (by omega))
  refine aw_nq (n' := (b + 61)) (by omega) ?_
  obtain ⟨h14, q14⟩ : ∃ y9, y9 = hset h13 b (.inr (9, [.ref (b + 1), .ref (b + 28), .ref (b + 55), .ref (b + 56), .ref (b + 58), .null, .null, .int 0])) := ⟨_, rfl⟩
  have C14 : HC h14 (b + 61) := by rw [q14]; exact HC.set C13 (sc_r (by omega) (sc_r (by omega) (sc_r (by omega) (sc_r (by omega) (sc_r (by omega) (sc_0 (sc_0 (sc_i sc_nil))))))))
  have o14 : ∀ i, i < b → h14 i = h i := fun i hi => by rw [q14]; exact (hset_n (by omega)).trans (o13 i hi)
  have e55_14 : h14 (b + 55) = .inl (4, 2, .inr (.inr (.inr (.inr (fun _ => none))))) := by rw [q14]; exact hset_q (by omega) e55_13
  have a1_14 : At_X1 h14 (b + 1) := At_X1_tr a1_13 (fun i q1 q2 => by rw [q14]; exact hset_n (by omega))
  have a28_14 : At_X1 h14 (b + 28) := At_X1_tr a28_13 (fun i q1 q2 => by rw [q14]; exact hset_n (by omega))
  have a56_14 : At_X8 (b + 1) h14 (b + 56) := At_X8_tr a56_13 (fun i q1 q2 => by rw [q14]; exact hset_n (by omega))
  have a58_14 : At_X3 (b + 1) h14 (b + 58) := At_X3_tr a58_13 (fun i q1 q2 => by rw [q14]; exact hset_n (by omega))
  have e0_14 : h14 b = .inr (9, [.ref (b + 1), .ref (b + 28), .ref (b + 55), .ref (b + 56), .ref (b + 58), .null, .null, .int 0]) := by rw [q14]; exact hset_s
  refine aw_put fp_X9_35_i dX9_init_61 e0_13 (by omega) (ble' rfl) (fun _ => ⟨rfl, rfl⟩) q14.symm ?_
  refine aw_aload_n dX9_init_64 rfl ?_
  refine aw_sipush (v := 500) dX9_init_65 (by decide) ?_
  refine awn_byte (N := 500) (by decide) (by decide) (by decide) dX9_init_68 C14 (by omega) (lc_r (by omega) lc_nil) (sc_r (by omega) sc_nil) (by decide) (by decide) ?_
  obtain ⟨h15, q15⟩ : ∃ y9, y9 = hset h14 (b + 61) (.inl (1, 500, .inl (fun _ => 0))) := ⟨_, rfl⟩
  have C15 : HC h15 (b + 62) := by rw [q15]; exact HC.new C14 trivial
  have o15 : ∀ i, i < b → h15 i = h i := fun i hi => by rw [q15]; exact (hset_n (by omega)).trans (o14 i hi)
  have e0_15 : h15 b = .inr (9, [.ref (b + 1), .ref (b + 28), .ref (b + 55), .ref (b + 56), .ref (b + 58), .null, .null, .int 0]) := by rw [q15]; exact hset_q (by omega) e0_14
  have e55_15 : h15 (b + 55) = .inl (4, 2, .inr (.inr (.inr (.inr (fun _ => none))))) := by rw [q15]; exact hset_q (by omega) e55_14
  have a1_15 : At_X1 h15 (b + 1) := At_X1_tr a1_14 (fun i q1 q2 => by rw [q15]; exact hset_n (by omega))
  have a28_15 : At_X1 h15 (b + 28) := At_X1_tr a28_14 (fun i q1 q2 => by rw [q15]; exact hset_n (by omega))
  have a56_15 : At_X8 (b + 1) h15 (b + 56) := At_X8_tr a56_14 (fun i q1 q2 => by rw [q15]; exact hset_n (by omega))
  have a58_15 : At_X3 (b + 1) h15 (b + 58) := At_X3_tr a58_14 (fun i q1 q2 => by rw [q15]; exact hset_n (by omega))
  have e61_15 : h15 (b + 61) = .inl (1, 500, .inl (fun _ => 0)) := by rw [q15]; exact hset_s
  refine aw_heq q15.symm ?_
  obtain ⟨h16, q16⟩ : ∃ y9, y9 = hset h15 b (.inr (9, [.ref (b + 1), .ref (b + 28), .ref (b + 55), .ref (b + 56), .ref (b + 58), .ref (b + 61), .null, .int 0])) := ⟨_, rfl⟩
  have C16 : HC h16 (b + 62) := by rw [q16]; exact HC.set C15 (sc_r (by omega) (sc_r (by omega) (sc_r (by omega) (sc_r (by omega) (sc_r (by omega) (sc_r (by omega) (sc_0 (sc_i sc_nil))))))))
  have o16 : ∀ i, i < b → h16 i = h i := fun i hi => by rw [q16]; exact (hset_n (by omega)).trans (o15 i hi)
  have e55_16 : h16 (b + 55) = .inl (4, 2, .inr (.inr (.inr (.inr (fun _ => none))))) := by rw [q16]; exact hset_q (by omega) e55_15
  have e61_16 : h16 (b + 61) = .inl (1, 500, .inl (fun _ => 0)) := by rw [q16]; exact hset_q (by omega) e61_15
  have a1_16 : At_X1 h16 (b + 1) := At_X1_tr a1_15 (fun i q1 q2 => by rw [q16]; exact hset_n (by omega))
  have a28_16 : At_X1 h16 (b + 28) := At_X1_tr a28_15 (fun i q1 q2 => by rw [q16]; exact hset_n (by omega))
  have a56_16 : At_X8 (b + 1) h16 (b + 56) := At_X8_tr a56_15 (fun i q1 q2 => by rw [q16]; exact hset_n (by omega))
  have a58_16 : At_X3 (b + 1) h16 (b + 58) := At_X3_tr a58_15 (fun i q1 q2 => by rw [q16]; exact hset_n (by omega))
  have e0_16 : h16 b = .inr (9, [.ref (b + 1), .ref (b + 28), .ref (b + 55), .ref (b + 56), .ref (b + 58), .ref (b + 61), .null, .int 0]) := by rw [q16]; exact hset_s
  refine aw_put fp_X9_39_i dX9_init_70 e0_15 (by omega) (ble' rfl) (fun _ => ⟨rfl, rfl⟩) q16.symm ?_
  refine aw_aload_n dX9_init_73 rfl ?_
  refine aw_new nw_X9_43 dX9_init_74 C16 (by omega) (lc_r (by omega) lc_nil) (sc_r (by omega) sc_nil) (by decide) (by decide) ?_
  obtain ⟨h17, q17⟩ : ∃ y9, y9 = hset h16 (b + 62) (.inr (6, [.null, .null, .int 0, .int 0, .int 0, .int 0, .int 0, .int 0, .int 0])) := ⟨_, rfl⟩
  have C17 : HC h17 (b + 63) := by rw [q17]; exact HC.new C16 (sc_0 (sc_0 (sc_i (sc_i (sc_i (sc_i (sc_i (sc_i (sc_i sc_nil)))))))))
  have o17 : ∀ i, i < b → h17 i = h i := fun i hi => by rw [q17]; exact (hset_n (by omega)).trans (o16 i hi)
  have e0_17 : h17 b = .inr (9, [.ref (b + 1), .ref (b + 28), .ref (b + 55), .ref (b + 56), .ref (b + 58), .ref (b + 61), .null, .int 0]) := by rw [q17]; exact hset_q (by omega) e0_16
  have e55_17 : h17 (b + 55) = .inl (4, 2, .inr (.inr (.inr (.inr (fun _ => none))))) := by rw [q17]; exact hset_q (by omega) e55_16
  have e61_17 : h17 (b + 61) = .inl (1, 500, .inl (fun _ => 0)) := by rw [q17]; exact hset_q (by omega) e61_16
  have a1_17 : At_X1 h17 (b + 1) := At_X1_tr a1_16 (fun i q1 q2 => by rw [q17]; exact hset_n (by omega))
  have a28_17 : At_X1 h17 (b + 28) := At_X1_tr a28_16 (fun i q1 q2 => by rw [q17]; exact hset_n (by omega))
  have a56_17 : At_X8 (b + 1) h17 (b + 56) := At_X8_tr a56_16 (fun i q1 q2 => by rw [q17]; exact hset_n (by omega))
  have a58_17 : At_X3 (b + 1) h17 (b + 58) := At_X3_tr a58_16 (fun i q1 q2 => by rw [q17]; exact hset_n (by omega))
  have e62_17 : h17 (b + 62) = .inr (6, [.null, .null, .int 0, .int 0, .int 0, .int 0, .int 0, .int 0, .int 0]) := by rw [q17]; exact hset_s
  refine aw_heq q17.symm ?_
  refine aw_dup dX9_init_77 rfl ?_
  refine aw_aload_n dX9_init_78 rfl ?_
  refine aw_get fl_X9_39 dX9_init_79 e0_17 (by omega) rfl ?_
  refine aw_aload_n dX9_init_82 rfl ?_
  refine aw_get fl_X9_16 dX9_init_83 e0_17 (by omega) rfl ?_
  refine aw_callI ki_X9_45 ko_X6_init (c_X6_init (b := (b + 62)) (tx := (b + 61)) (c := (b + 28)) (by omega) (by omega) (by omega) e62_17 C17) dX9_init_86 rfl rfl (ble' rfl) (by decide) (lc_r (by omega) lc_nil) (sc_r (by omega) (sc_r (by omega) sc_nil)) (fun E h' n' q => by cases q.1) (fun v h' n' hp _ _ => ?_)
  obtain ⟨hv, rfl, C18, oo, a62_18⟩ := hp
  cases hv
  obtain ⟨h18, rfl⟩ : ∃ y9, y9 = h' := ⟨_, rfl⟩
  have C18 : HC h18 (b + 63) := C18
  have o18 : ∀ i, i < b → h18 i = h i := fun i hi => (oo i (by omega)).trans (o17 i hi)
  have e0_18 : h18 b = .inr (9, [.ref (b + 1), .ref (b + 28), .ref (b + 55), .ref (b + 56), .ref (b + 58), .ref (b + 61), .null, .int 0]) := (oo _ (by omega)).trans e0_17
  have e55_18 : h18 (b + 55) = .inl (4, 2, .inr (.inr (.inr (.inr (fun _ => none))))) := (oo _ (by omega)).trans e55_17
  have e61_18 : h18 (b + 61) = .inl (1, 500, .inl (fun _ => 0)) := (oo _ (by omega)).trans e61_17
  have a1_18 : At_X1 h18 (b + 1) := At_X1_tr a1_17 (fun i q1 q2 => oo i (by omega))
  have a28_18 : At_X1 h18 (b + 28) := At_X1_tr a28_17 (fun i q1 q2 => oo i (by omega))
  have a56_18 : At_X8 (b + 1) h18 (b + 56) := At_X8_tr a56_17 (fun i q1 q2 => oo i (by omega))
  have a58_18 : At_X3 (b + 1) h18 (b + 58) := At_X3_tr a58_17 (fun i q1 q2 => oo i (by omega))
  refine aw_nq (n' := (b + 63)) (by omega) ?_
  obtain ⟨h19, q19⟩ : ∃ y9, y9 = hset h18 b (.inr (9, [.ref (b + 1), .ref (b + 28), .ref (b + 55), .ref (b + 56), .ref (b + 58), .ref (b + 61), .ref (b + 62), .int 0])) := ⟨_, rfl⟩
  have C19 : HC h19 (b + 63) := by rw [q19]; exact HC.set C18 (sc_r (by omega) (sc_r (by omega) (sc_r (by omega) (sc_r (by omega) (sc_r (by omega) (sc_r (by omega) (sc_r (by omega) (sc_i sc_nil))))))))
  have o19 : ∀ i, i < b → h19 i = h i := fun i hi => by rw [q19]; exact (hset_n (by omega)).trans (o18 i hi)
  have e55_19 : h19 (b + 55) = .inl (4, 2, .inr (.inr (.inr (.inr (fun _ => none))))) := by rw [q19]; exact hset_q (by omega) e55_18
  have e61_19 : h19 (b + 61) = .inl (1, 500, .inl (fun _ => 0)) := by rw [q19]; exact hset_q (by omega) e61_18
  have a1_19 : At_X1 h19 (b + 1) := At_X1_tr a1_18 (fun i q1 q2 => by rw [q19]; exact hset_n (by omega))
  have a28_19 : At_X1 h19 (b + 28) := At_X1_tr a28_18 (fun i q1 q2 => by rw [q19]; exact hset_n (by omega))
  have a56_19 : At_X8 (b + 1) h19 (b + 56) := At_X8_tr a56_18 (fun i q1 q2 => by rw [q19]; exact hset_n (by omega))
  have a58_19 : At_X3 (b + 1) h19 (b + 58) := At_X3_tr a58_18 (fun i q1 q2 => by rw [q19]; exact hset_n (by omega))
  have a62_19 : At_X6 (b + 61) (b + 28) h19 (b + 62) := At_X6_tr a62_18 (fun i q1 q2 => by rw [q19]; exact hset_n (by omega))
  have e0_19 : h19 b = .inr (9, [.ref (b + 1), .ref (b + 28), .ref (b + 55), .ref (b + 56), .ref (b + 58), .ref (b + 61), .ref (b + 62), .int 0]) := by rw [q19]; exact hset_s
  refine aw_put fp_X9_48_i dX9_init_89 e0_18 (by omega) (ble' rfl) (fun _ => ⟨rfl, rfl⟩) q19.symm ?_
  refine aw_aload_n dX9_init_92 rfl ?_
  refine aw_iconst (v := 0) dX9_init_93 (by decide) ?_
  obtain ⟨h20, q20⟩ : ∃ y9, y9 = hset h19 b (.inr (9, [.ref (b + 1), .ref (b + 28), .ref (b + 55), .ref (b + 56), .ref (b + 58), .ref (b + 61), .ref (b + 62), .int 0])) := ⟨_, rfl⟩
  have C20 : HC h20 (b + 63) := by rw [q20]; exact HC.set C19 (sc_r (by omega) (sc_r (by omega) (sc_r (by omega) (sc_r (by omega) (sc_r (by omega) (sc_r (by omega) (sc_r (by omega) (sc_i sc_nil))))))))
  have o20 : ∀ i, i < b → h20 i = h i := fun i hi => by rw [q20]; exact (hset_n (by omega)).trans (o19 i hi)
  have e55_20 : h20 (b + 55) = .inl (4, 2, .inr (.inr (.inr (.inr (fun _ => none))))) := by rw [q20]; exact hset_q (by omega) e55_19
  have e61_20 : h20 (b + 61) = .inl (1, 500, .inl (fun _ => 0)) := by rw [q20]; exact hset_q (by omega) e61_19
  have a1_20 : At_X1 h20 (b + 1) := At_X1_tr a1_19 (fun i q1 q2 => by rw [q20]; exact hset_n (by omega))
  have a28_20 : At_X1 h20 (b + 28) := At_X1_tr a28_19 (fun i q1 q2 => by rw [q20]; exact hset_n (by omega))
  have a56_20 : At_X8 (b + 1) h20 (b + 56) := At_X8_tr a56_19 (fun i q1 q2 => by rw [q20]; exact hset_n (by omega))
  have a58_20 : At_X3 (b + 1) h20 (b + 58) := At_X3_tr a58_19 (fun i q1 q2 => by rw [q20]; exact hset_n (by omega))
  have a62_20 : At_X6 (b + 61) (b + 28) h20 (b + 62) := At_X6_tr a62_19 (fun i q1 q2 => by rw [q20]; exact hset_n (by omega))
  have e0_20 : h20 b = .inr (9, [.ref (b + 1), .ref (b + 28), .ref (b + 55), .ref (b + 56), .ref (b + 58), .ref (b + 61), .ref (b + 62), .int 0]) := by rw [q20]; exact hset_s
  refine aw_put fp_X9_52_i dX9_init_94 e0_19 (by omega) (ble' rfl) (fun _ => ⟨rfl, rfl⟩) q20.symm ?_
  refine aw_vret rfl dX9_init_97 (ble' rfl) (ble' rfl) ?_
  exact ⟨rfl, rfl, C20, o20, e0_20, a1_20, a28_20, e55_20, a56_20, a58_20, e61_20, a62_20⟩
