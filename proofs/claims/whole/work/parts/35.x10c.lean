/-- the reference's counts and its day -/
def CR (M : Nat → Nat → Int32) (nc ns nz nb nr t : Nat) : Prop := M 64 1 = nI nc ∧ nc ≤ 4 ∧ M 64 2 = nI ns ∧ ns ≤ 16 ∧ M 64 3 = nI nz ∧ nz ≤ 12 ∧ M 64 4 = nI nb ∧ nb ≤ 60 ∧ M 64 5 = nI nr ∧ nr ≤ 20 ∧ M 64 0 = nI t ∧ t ≤ 999
def nsR (M : Nat → Nat → Int32) : Nat := (M 64 2).toNatClampNeg
def nbR (M : Nat → Nat → Int32) : Nat := (M 64 4).toNatClampNeg
def nzR (M : Nat → Nat → Int32) : Nat := (M 64 3).toNatClampNeg
def nrR (M : Nat → Nat → Int32) : Nat := (M 64 5).toNatClampNeg
/-- the same but for what the reference notes: thrown, its plan -/
def RS (A B : Nat → Nat → Int32) : Prop := (∀ i, i ≠ 63 → i ≠ 68 → i ≠ 69 → B i = A i) ∧ ∀ j, j ≠ 4 → j ≠ 7 → j ≠ 8 → B 63 j = A 63 j
theorem rs_rf {M : Nat → Nat → Int32} : RS M M := ⟨fun _ _ _ _ => rfl, fun _ _ _ _ => rfl⟩
theorem rs_tr {A B C : Nat → Nat → Int32} (h1 : RS A B) (h2 : RS B C) : RS A C := ⟨fun i a b c => (h2.1 i a b c).trans (h1.1 i a b c), fun j a b c => (h2.2 j a b c).trans (h1.2 j a b c)⟩
theorem rs_1 {M : Nat → Nat → Int32} {c : Int32} : RS M (updM M 63 (upd (M 63) 4 c)) := ⟨fun i h _ _ => updM_n h, fun j h _ _ => by rw [updM_s]; exact if_neg h⟩
theorem rs_2 {M : Nat → Nat → Int32} {c d : Int32} : RS M (thM (updM M 63 (upd (M 63) 4 c)) d) := rs_tr rs_1 rs_1
theorem rs_64 {M : Nat → Nat → Int32} {c : Int32} {r : Nat → Int32} : RS (updM M 64 r) (updM (updM M 63 (upd (M 63) 4 c)) 64 r) := by
  refine ⟨fun i h1 _ _ => ?_, fun j h1 _ _ => ?_⟩
  · unfold updM
    by_cases h : i = 64
    · simp [h]
    · simp [h, h1]
  · simp [updM, upd, h1]
/-- how a call of the reference ends: the number of what it throws, its answer -/
def PR (cd : Nat) (v : Int32) (G : AG) (M M1 : Nat → Nat → Int32) (n : Nat) : APost := fun o h n' => o = .inl (some (.int (if cd = 0 then v else 0))) ∧ n' = n ∧ ∃ M2, h = wld G M2 ∧ RS (if cd = 0 then M1 else M) M2 ∧ M2 63 4 = nI cd
def PRv (cd : Nat) (G : AG) (M M1 : Nat → Nat → Int32) (n : Nat) : APost := fun o h n' => o = .inl none ∧ n' = n ∧ ∃ M2, h = wld G M2 ∧ RS (if cd = 0 then M1 else M) M2 ∧ M2 63 4 = nI cd
theorem pr_ok {cd : Nat} {v v' : Int32} {G : AG} {M M1 M2 : Nat → Nat → Int32} {n : Nat} (hc : cd = 0) (hv : v' = v) (hr : RS M1 M2) (h4 : M2 63 4 = 0) : PR cd v G M M1 n (.inl (some (.int v'))) (wld G M2) n := ⟨by rw [if_pos hc, hv], rfl, M2, rfl, by rw [if_pos hc]; exact hr, by rw [hc, h4]; rfl⟩
theorem pr_no {cd k : Nat} {v : Int32} {G : AG} {M M1 M2 : Nat → Nat → Int32} {n : Nat} (hc : cd = k + 1) (hr : RS M M2) (h4 : M2 63 4 = nI (k + 1)) : PR cd v G M M1 n (.inl (some (.int 0))) (wld G M2) n := ⟨by rw [if_neg (by omega)], rfl, M2, rfl, by rw [if_neg (by omega)]; exact hr, by rw [hc, h4]⟩
theorem pr_okv {cd : Nat} {G : AG} {M M1 M2 : Nat → Nat → Int32} {n : Nat} (hc : cd = 0) (hr : RS M1 M2) (h4 : M2 63 4 = 0) : PRv cd G M M1 n (.inl none) (wld G M2) n := ⟨rfl, rfl, M2, rfl, by rw [if_pos hc]; exact hr, by rw [hc, h4]; rfl⟩
theorem pr_nov {cd k : Nat} {G : AG} {M M1 M2 : Nat → Nat → Int32} {n : Nat} (hc : cd = k + 1) (hr : RS M M2) (h4 : M2 63 4 = nI (k + 1)) : PRv cd G M M1 n (.inl none) (wld G M2) n := ⟨rfl, rfl, M2, rfl, by rw [if_neg (by omega)]; exact hr, by rw [hc, h4]⟩
theorem V_eq {A B : Nat → Nat → Int32} (h : A 64 = B 64) : V A = V B := by
  funext i
  unfold V
  rw [h]
theorem nsR_eq {A B : Nat → Nat → Int32} (h : A 64 = B 64) : nsR A = nsR B := by unfold nsR; rw [h]
theorem nbR_eq {A B : Nat → Nat → Int32} (h : A 64 = B 64) : nbR A = nbR B := by unfold nbR; rw [h]
theorem nzR_eq {A B : Nat → Nat → Int32} (h : A 64 = B 64) : nzR A = nzR B := by unfold nzR; rw [h]
theorem nrR_eq {A B : Nat → Nat → Int32} (h : A 64 = B 64) : nrR A = nrR B := by unfold nrR; rw [h]
theorem rlV_eq {A B : Nat → Nat → Int32} (h : A 64 = B 64) : rlV A = rlV B := by funext a b c d; unfold rlV; rw [h, V_eq h]
theorem avV_eq {A B : Nat → Nat → Int32} (h : A 64 = B 64) : avV A = avV B := by funext a b c d e; unfold avV; rw [rlV_eq h, V_eq h]
theorem frR_eq {A B : Nat → Nat → Int32} (h : A 64 = B 64) : frR A = frR B := by funext a b c d e; unfold frR; rw [avV_eq h]
theorem onV_eq {A B : Nat → Nat → Int32} (h : A 64 = B 64) : onV A = onV B := by funext a b c d e f; unfold onV; simp only [frR_eq h, V_eq h, h]
theorem mnV_eq {A B : Nat → Nat → Int32} (h : A 64 = B 64) : mnV A = mnV B := by funext a b c; unfold mnV; rw [V_eq h]
theorem osV_eq {A B : Nat → Nat → Int32} (h : A 64 = B 64) : osV A = osV B := by funext a b c d e f g; unfold osV; rw [onV_eq h, mnV_eq h, frR_eq h]
theorem vaV_eq {A B : Nat → Nat → Int32} (h : A 64 = B 64) : vaV A = vaV B := by funext a b c; unfold vaV; rw [V_eq h, h]
theorem cls_of {c x : Int32} {k : Nat} (hx : x = nI k) (hk : k < 2 ^ 30) (h : 0 ≤ c ∧ c ≤ x - 1) : ∃ j, j < k ∧ c = nI j := by
  obtain ⟨j, hj, rfl⟩ := nI_of (Int32.not_lt.mpr h.1)
  refine ⟨j, ?_, rfl⟩
  have h2 := h.2
  rw [hx] at h2
  cases k with
  | zero =>
    rw [Int32.le_iff_toInt_le, nI_toInt hj] at h2
    have : (nI 0 - 1).toInt = -1 := by decide
    omega
  | succ k =>
    rw [nI_pred] at h2
    have := (nI_leI hj (by omega)).mp h2
    omega
set_option maxRecDepth 100000 in
set_option maxHeartbeats 4000000 in
theorem c_X10_thrown {G : AG} {M : Nat → Nat → Int32} {n : Nat} (hn : 72 ≤ n) : AMet tX10_thrown yX10_thrown [Cond.code yX10_thrown cX10_thrown 1 (some .int)] [.ref 63] (wld G M) n (PD (.inl (some (.int (M 63 4)))) (wld G M) n) := by
  refine am_of (lo := [_]) (by decide) rfl (fun q => by cases q) rfl rfl rfl ?_
  refine aw_aload_n dX10_thrown_0 rfl ?_
  refine aw_get fl_X10_36 dX10_thrown_1 e_63 (l_63 hn) rfl ?_
  refine aw_iret rfl dX10_thrown_4 (ble' rfl) (ble' rfl) ?_
  exact pd_i rfl

def cr_classCount (M : Nat → Nat → Int32) : Nat := 0
set_option maxRecDepth 100000 in
set_option maxHeartbeats 4000000 in
theorem c_X10_classCount {G : AG} {M : Nat → Nat → Int32} {n : Nat} (hn : 72 ≤ n) {nc ns nz nb nr tt : Nat} (hI : CR M nc ns nz nb nr tt)  : AMet tX10_classCount yX10_classCount [Cond.code yX10_classCount cX10_classCount 1 (some .int)] [.ref 63] (wld G M) n (PR (cr_classCount M) (M 64 1) G M M n) := by
  refine am_of (lo := [_]) (by decide) rfl (fun q => by cases q) rfl rfl rfl ?_
  refine aw_aload_n dX10_classCount_0 rfl ?_
  refine aw_iconst (v := 0) dX10_classCount_1 (by decide) ?_
  refine aw_put fp_X10_36_m dX10_classCount_2 e_63 (l_63 hn) (ble' rfl) (fun _ => ⟨rfl, rfl⟩) (hwf rfl) ?_
  obtain ⟨M', e64, e63, eRS, e4, eW⟩ : ∃ M', M 64 = M' 64 ∧ (∀ j, j ≠ 4 → M 63 j = M' 63 j) ∧ RS M M' ∧ M' 63 4 = 0 ∧ wld G (updM M 63 (upd (M 63) 4 0)) = wld G M' := ⟨_, rfl, fun j h => (if_neg h).symm, rs_1, rfl, rfl⟩
  refine aw_heq eW ?_
  rw [show cr_classCount M = cr_classCount M' from rfl]
  rw [show (M 64 1) = (M' 64 1) from by simp only [e64, V_eq e64, rlV_eq e64, avV_eq e64, frR_eq e64, onV_eq e64, mnV_eq e64, osV_eq e64, vaV_eq e64, nsR_eq e64, nbR_eq e64, nzR_eq e64, nrR_eq e64]]
  have hI' : CR M' nc ns nz nb nr tt := by unfold CR at hI ⊢; rw [← e64]; exact hI
  clear hI eW
  obtain ⟨hc, hcl, hs, hsl, hz, hzl, hb, hbl, hr, hrl, ht, htl⟩ := id hI'
  have ens : nsR M' = ns := cl_of hs (by omega)
  have enb : nbR M' = nb := cl_of hb (by omega)
  have enz : nzR M' = nz := cl_of hz (by omega)
  have enr : nrR M' = nr := cl_of hr (by omega)
  refine aw_aload_n dX10_classCount_5 rfl ?_
  refine aw_get fl_X10_7 dX10_classCount_6 e_63 (l_63 hn) rfl ?_
  refine aw_iconst (v := 1) dX10_classCount_9 (by decide) ?_
  refine aw_ialdk dX10_classCount_10 e_64 (l_64 hn) (show (1 : Int32) = nI 1 from rfl) (by decide) rfl ?_
  refine aw_iret rfl dX10_classCount_11 (ble' rfl) (ble' rfl) ?_
  exact pr_ok (by rw [cr_classCount]) (rfl) eRS e4

def cr_siteCount (M : Nat → Nat → Int32) : Nat := 0
set_option maxRecDepth 100000 in
set_option maxHeartbeats 4000000 in
theorem c_X10_siteCount {G : AG} {M : Nat → Nat → Int32} {n : Nat} (hn : 72 ≤ n) {nc ns nz nb nr tt : Nat} (hI : CR M nc ns nz nb nr tt)  : AMet tX10_siteCount yX10_siteCount [Cond.code yX10_siteCount cX10_siteCount 1 (some .int)] [.ref 63] (wld G M) n (PR (cr_siteCount M) (M 64 2) G M M n) := by
  refine am_of (lo := [_]) (by decide) rfl (fun q => by cases q) rfl rfl rfl ?_
  refine aw_aload_n dX10_siteCount_0 rfl ?_
  refine aw_iconst (v := 0) dX10_siteCount_1 (by decide) ?_
  refine aw_put fp_X10_36_m dX10_siteCount_2 e_63 (l_63 hn) (ble' rfl) (fun _ => ⟨rfl, rfl⟩) (hwf rfl) ?_
  obtain ⟨M', e64, e63, eRS, e4, eW⟩ : ∃ M', M 64 = M' 64 ∧ (∀ j, j ≠ 4 → M 63 j = M' 63 j) ∧ RS M M' ∧ M' 63 4 = 0 ∧ wld G (updM M 63 (upd (M 63) 4 0)) = wld G M' := ⟨_, rfl, fun j h => (if_neg h).symm, rs_1, rfl, rfl⟩
  refine aw_heq eW ?_
  rw [show cr_siteCount M = cr_siteCount M' from rfl]
  rw [show (M 64 2) = (M' 64 2) from by simp only [e64, V_eq e64, rlV_eq e64, avV_eq e64, frR_eq e64, onV_eq e64, mnV_eq e64, osV_eq e64, vaV_eq e64, nsR_eq e64, nbR_eq e64, nzR_eq e64, nrR_eq e64]]
  have hI' : CR M' nc ns nz nb nr tt := by unfold CR at hI ⊢; rw [← e64]; exact hI
  clear hI eW
  obtain ⟨hc, hcl, hs, hsl, hz, hzl, hb, hbl, hr, hrl, ht, htl⟩ := id hI'
  have ens : nsR M' = ns := cl_of hs (by omega)
  have enb : nbR M' = nb := cl_of hb (by omega)
  have enz : nzR M' = nz := cl_of hz (by omega)
  have enr : nrR M' = nr := cl_of hr (by omega)
  refine aw_aload_n dX10_siteCount_5 rfl ?_
  refine aw_get fl_X10_7 dX10_siteCount_6 e_63 (l_63 hn) rfl ?_
  refine aw_iconst (v := 2) dX10_siteCount_9 (by decide) ?_
  refine aw_ialdk dX10_siteCount_10 e_64 (l_64 hn) (show (2 : Int32) = nI 2 from rfl) (by decide) rfl ?_
  refine aw_iret rfl dX10_siteCount_11 (ble' rfl) (ble' rfl) ?_
  exact pr_ok (by rw [cr_siteCount]) (rfl) eRS e4

def cr_bookingCount (M : Nat → Nat → Int32) : Nat := 0
set_option maxRecDepth 100000 in
set_option maxHeartbeats 4000000 in
theorem c_X10_bookingCount {G : AG} {M : Nat → Nat → Int32} {n : Nat} (hn : 72 ≤ n) {nc ns nz nb nr tt : Nat} (hI : CR M nc ns nz nb nr tt)  : AMet tX10_bookingCount yX10_bookingCount [Cond.code yX10_bookingCount cX10_bookingCount 1 (some .int)] [.ref 63] (wld G M) n (PR (cr_bookingCount M) (M 64 4) G M M n) := by
  refine am_of (lo := [_]) (by decide) rfl (fun q => by cases q) rfl rfl rfl ?_
  refine aw_aload_n dX10_bookingCount_0 rfl ?_
  refine aw_iconst (v := 0) dX10_bookingCount_1 (by decide) ?_
  refine aw_put fp_X10_36_m dX10_bookingCount_2 e_63 (l_63 hn) (ble' rfl) (fun _ => ⟨rfl, rfl⟩) (hwf rfl) ?_
  obtain ⟨M', e64, e63, eRS, e4, eW⟩ : ∃ M', M 64 = M' 64 ∧ (∀ j, j ≠ 4 → M 63 j = M' 63 j) ∧ RS M M' ∧ M' 63 4 = 0 ∧ wld G (updM M 63 (upd (M 63) 4 0)) = wld G M' := ⟨_, rfl, fun j h => (if_neg h).symm, rs_1, rfl, rfl⟩
  refine aw_heq eW ?_
  rw [show cr_bookingCount M = cr_bookingCount M' from rfl]
  rw [show (M 64 4) = (M' 64 4) from by simp only [e64, V_eq e64, rlV_eq e64, avV_eq e64, frR_eq e64, onV_eq e64, mnV_eq e64, osV_eq e64, vaV_eq e64, nsR_eq e64, nbR_eq e64, nzR_eq e64, nrR_eq e64]]
  have hI' : CR M' nc ns nz nb nr tt := by unfold CR at hI ⊢; rw [← e64]; exact hI
  clear hI eW
  obtain ⟨hc, hcl, hs, hsl, hz, hzl, hb, hbl, hr, hrl, ht, htl⟩ := id hI'
  have ens : nsR M' = ns := cl_of hs (by omega)
  have enb : nbR M' = nb := cl_of hb (by omega)
  have enz : nzR M' = nz := cl_of hz (by omega)
  have enr : nrR M' = nr := cl_of hr (by omega)
  refine aw_aload_n dX10_bookingCount_5 rfl ?_
  refine aw_get fl_X10_7 dX10_bookingCount_6 e_63 (l_63 hn) rfl ?_
  refine aw_iconst (v := 4) dX10_bookingCount_9 (by decide) ?_
  refine aw_ialdk dX10_bookingCount_10 e_64 (l_64 hn) (show (4 : Int32) = nI 4 from rfl) (by decide) rfl ?_
  refine aw_iret rfl dX10_bookingCount_11 (ble' rfl) (ble' rfl) ?_
  exact pr_ok (by rw [cr_bookingCount]) (rfl) eRS e4

def cr_today (M : Nat → Nat → Int32) : Nat := 0
set_option maxRecDepth 100000 in
set_option maxHeartbeats 4000000 in
theorem c_X10_today {G : AG} {M : Nat → Nat → Int32} {n : Nat} (hn : 72 ≤ n) {nc ns nz nb nr tt : Nat} (hI : CR M nc ns nz nb nr tt)  : AMet tX10_today yX10_today [Cond.code yX10_today cX10_today 1 (some .int)] [.ref 63] (wld G M) n (PR (cr_today M) (M 64 0) G M M n) := by
  refine am_of (lo := [_]) (by decide) rfl (fun q => by cases q) rfl rfl rfl ?_
  refine aw_aload_n dX10_today_0 rfl ?_
  refine aw_iconst (v := 0) dX10_today_1 (by decide) ?_
  refine aw_put fp_X10_36_m dX10_today_2 e_63 (l_63 hn) (ble' rfl) (fun _ => ⟨rfl, rfl⟩) (hwf rfl) ?_
  obtain ⟨M', e64, e63, eRS, e4, eW⟩ : ∃ M', M 64 = M' 64 ∧ (∀ j, j ≠ 4 → M 63 j = M' 63 j) ∧ RS M M' ∧ M' 63 4 = 0 ∧ wld G (updM M 63 (upd (M 63) 4 0)) = wld G M' := ⟨_, rfl, fun j h => (if_neg h).symm, rs_1, rfl, rfl⟩
  refine aw_heq eW ?_
  rw [show cr_today M = cr_today M' from rfl]
  rw [show (M 64 0) = (M' 64 0) from by simp only [e64, V_eq e64, rlV_eq e64, avV_eq e64, frR_eq e64, onV_eq e64, mnV_eq e64, osV_eq e64, vaV_eq e64, nsR_eq e64, nbR_eq e64, nzR_eq e64, nrR_eq e64]]
  have hI' : CR M' nc ns nz nb nr tt := by unfold CR at hI ⊢; rw [← e64]; exact hI
  clear hI eW
  obtain ⟨hc, hcl, hs, hsl, hz, hzl, hb, hbl, hr, hrl, ht, htl⟩ := id hI'
  have ens : nsR M' = ns := cl_of hs (by omega)
  have enb : nbR M' = nb := cl_of hb (by omega)
  have enz : nzR M' = nz := cl_of hz (by omega)
  have enr : nrR M' = nr := cl_of hr (by omega)
  refine aw_aload_n dX10_today_5 rfl ?_
  refine aw_get fl_X10_7 dX10_today_6 e_63 (l_63 hn) rfl ?_
  refine aw_iconst (v := 0) dX10_today_9 (by decide) ?_
  refine aw_ialdk dX10_today_10 e_64 (l_64 hn) (show (0 : Int32) = nI 0 from rfl) (by decide) rfl ?_
  refine aw_iret rfl dX10_today_11 (ble' rfl) (ble' rfl) ?_
  exact pr_ok (by rw [cr_today]) (rfl) eRS e4

def cr_errorCode (M : Nat → Nat → Int32) : Nat := 0
set_option maxRecDepth 100000 in
set_option maxHeartbeats 4000000 in
theorem c_X10_errorCode {G : AG} {M : Nat → Nat → Int32} {n : Nat} (hn : 72 ≤ n) {nc ns nz nb nr tt : Nat} (hI : CR M nc ns nz nb nr tt)  : AMet tX10_errorCode yX10_errorCode [Cond.code yX10_errorCode cX10_errorCode 1 (some .int)] [.ref 63] (wld G M) n (PR (cr_errorCode M) (M 63 16) G M M n) := by
  refine am_of (lo := [_]) (by decide) rfl (fun q => by cases q) rfl rfl rfl ?_
  refine aw_aload_n dX10_errorCode_0 rfl ?_
  refine aw_iconst (v := 0) dX10_errorCode_1 (by decide) ?_
  refine aw_put fp_X10_36_m dX10_errorCode_2 e_63 (l_63 hn) (ble' rfl) (fun _ => ⟨rfl, rfl⟩) (hwf rfl) ?_
  obtain ⟨M', e64, e63, eRS, e4, eW⟩ : ∃ M', M 64 = M' 64 ∧ (∀ j, j ≠ 4 → M 63 j = M' 63 j) ∧ RS M M' ∧ M' 63 4 = 0 ∧ wld G (updM M 63 (upd (M 63) 4 0)) = wld G M' := ⟨_, rfl, fun j h => (if_neg h).symm, rs_1, rfl, rfl⟩
  refine aw_heq eW ?_
  rw [show cr_errorCode M = cr_errorCode M' from rfl]
  rw [show (M 63 16) = (M' 63 16) from e63 _ (by decide)]
  have hI' : CR M' nc ns nz nb nr tt := by unfold CR at hI ⊢; rw [← e64]; exact hI
  clear hI eW
  obtain ⟨hc, hcl, hs, hsl, hz, hzl, hb, hbl, hr, hrl, ht, htl⟩ := id hI'
  have ens : nsR M' = ns := cl_of hs (by omega)
  have enb : nbR M' = nb := cl_of hb (by omega)
  have enz : nzR M' = nz := cl_of hz (by omega)
  have enr : nrR M' = nr := cl_of hr (by omega)
  refine aw_aload_n dX10_errorCode_5 rfl ?_
  refine aw_get fl_X10_258 dX10_errorCode_6 e_63 (l_63 hn) rfl ?_
  refine aw_iret rfl dX10_errorCode_9 (ble' rfl) (ble' rfl) ?_
  exact pr_ok (by rw [cr_errorCode]) (rfl) eRS e4

def cr_errorPosition (M : Nat → Nat → Int32) : Nat := 0
set_option maxRecDepth 100000 in
set_option maxHeartbeats 4000000 in
theorem c_X10_errorPosition {G : AG} {M : Nat → Nat → Int32} {n : Nat} (hn : 72 ≤ n) {nc ns nz nb nr tt : Nat} (hI : CR M nc ns nz nb nr tt)  : AMet tX10_errorPosition yX10_errorPosition [Cond.code yX10_errorPosition cX10_errorPosition 1 (some .int)] [.ref 63] (wld G M) n (PR (cr_errorPosition M) (M 63 17) G M M n) := by
  refine am_of (lo := [_]) (by decide) rfl (fun q => by cases q) rfl rfl rfl ?_
  refine aw_aload_n dX10_errorPosition_0 rfl ?_
  refine aw_iconst (v := 0) dX10_errorPosition_1 (by decide) ?_
  refine aw_put fp_X10_36_m dX10_errorPosition_2 e_63 (l_63 hn) (ble' rfl) (fun _ => ⟨rfl, rfl⟩) (hwf rfl) ?_
  obtain ⟨M', e64, e63, eRS, e4, eW⟩ : ∃ M', M 64 = M' 64 ∧ (∀ j, j ≠ 4 → M 63 j = M' 63 j) ∧ RS M M' ∧ M' 63 4 = 0 ∧ wld G (updM M 63 (upd (M 63) 4 0)) = wld G M' := ⟨_, rfl, fun j h => (if_neg h).symm, rs_1, rfl, rfl⟩
  refine aw_heq eW ?_
  rw [show cr_errorPosition M = cr_errorPosition M' from rfl]
  rw [show (M 63 17) = (M' 63 17) from e63 _ (by decide)]
  have hI' : CR M' nc ns nz nb nr tt := by unfold CR at hI ⊢; rw [← e64]; exact hI
  clear hI eW
  obtain ⟨hc, hcl, hs, hsl, hz, hzl, hb, hbl, hr, hrl, ht, htl⟩ := id hI'
  have ens : nsR M' = ns := cl_of hs (by omega)
  have enb : nbR M' = nb := cl_of hb (by omega)
  have enz : nzR M' = nz := cl_of hz (by omega)
  have enr : nrR M' = nr := cl_of hr (by omega)
  refine aw_aload_n dX10_errorPosition_5 rfl ?_
  refine aw_get fl_X10_32 dX10_errorPosition_6 e_63 (l_63 hn) rfl ?_
  refine aw_iret rfl dX10_errorPosition_9 (ble' rfl) (ble' rfl) ?_
  exact pr_ok (by rw [cr_errorPosition]) (rfl) eRS e4

def cr_classOf (M : Nat → Nat → Int32) (s : Int32) : Nat := if ¬ (0 ≤ s ∧ s ≤ M 64 2 - 1) then 1 else 0
set_option maxRecDepth 100000 in
set_option maxHeartbeats 4000000 in
theorem c_X10_classOf {G : AG} {M : Nat → Nat → Int32} {n : Nat} (hn : 72 ≤ n) {nc ns nz nb nr tt : Nat} (hI : CR M nc ns nz nb nr tt)  (s : Int32) : AMet tX10_classOf yX10_classOf [Cond.code yX10_classOf cX10_classOf 2 (some .int)] [.ref 63, .int s] (wld G M) n (PR (cr_classOf M s) (V M 7 s.toNatClampNeg) G M M n) := by
  refine am_of (lo := [_, _]) (by decide) rfl (fun q => by cases q) rfl rfl rfl ?_
  refine aw_aload_n dX10_classOf_0 rfl ?_
  refine aw_iconst (v := 0) dX10_classOf_1 (by decide) ?_
  refine aw_put fp_X10_36_m dX10_classOf_2 e_63 (l_63 hn) (ble' rfl) (fun _ => ⟨rfl, rfl⟩) (hwf rfl) ?_
  obtain ⟨M', e64, e63, eRS, e4, eW⟩ : ∃ M', M 64 = M' 64 ∧ (∀ j, j ≠ 4 → M 63 j = M' 63 j) ∧ RS M M' ∧ M' 63 4 = 0 ∧ wld G (updM M 63 (upd (M 63) 4 0)) = wld G M' := ⟨_, rfl, fun j h => (if_neg h).symm, rs_1, rfl, rfl⟩
  refine aw_heq eW ?_
  rw [show cr_classOf M s = cr_classOf M' s from by unfold cr_classOf; simp only [e64, V_eq e64, rlV_eq e64, avV_eq e64, frR_eq e64, onV_eq e64, mnV_eq e64, osV_eq e64, vaV_eq e64, nsR_eq e64, nbR_eq e64, nzR_eq e64, nrR_eq e64]]
  rw [show (V M 7 s.toNatClampNeg) = (V M' 7 s.toNatClampNeg) from by simp only [e64, V_eq e64, rlV_eq e64, avV_eq e64, frR_eq e64, onV_eq e64, mnV_eq e64, osV_eq e64, vaV_eq e64, nsR_eq e64, nbR_eq e64, nzR_eq e64, nrR_eq e64]]
  have hI' : CR M' nc ns nz nb nr tt := by unfold CR at hI ⊢; rw [← e64]; exact hI
  clear hI eW
  obtain ⟨hc, hcl, hs, hsl, hz, hzl, hb, hbl, hr, hrl, ht, htl⟩ := id hI'
  have ens : nsR M' = ns := cl_of hs (by omega)
  have enb : nbR M' = nb := cl_of hb (by omega)
  have enz : nzR M' = nz := cl_of hz (by omega)
  have enr : nrR M' = nr := cl_of hr (by omega)
  refine aw_aload_n dX10_classOf_5 rfl ?_
  refine aw_iload_n dX10_classOf_6 rfl ?_
  refine ap_callVi kv_X10_65 ko_X10_isSite (c_X10_isSite hn _) dX10_classOf_7 e_63 (l_63 hn) rfl rfl rfl rfl (ble' rfl) (by decide) ?_
  refine aw_if_eq 22 dX10_classOf_10 (by decide) (fun c10 => ?_) (fun c10 => ?_)
  · have n10 := bI_z.mp c10
    refine aw_aload_n dX10_classOf_22 rfl ?_
    refine aw_iconst (v := 1) dX10_classOf_23 (by decide) ?_
    refine ap_callVi kv_X10_43 ko_X10_fail (c_X10_fail hn _) dX10_classOf_24 e_63 (l_63 hn) rfl rfl rfl rfl (ble' rfl) (by decide) ?_
    refine aw_iret rfl dX10_classOf_27 (ble' rfl) (ble' rfl) ?_
    exact pr_no (k := 0) (by rw [cr_classOf, if_pos n10]) (rs_tr eRS rs_1) rfl
  · have n10 := bI_nz.mp c10
    obtain ⟨ks, hks, hkS⟩ := cls_of hs (by omega) n10
    refine aw_aload_n dX10_classOf_13 rfl ?_
    refine aw_iload_n dX10_classOf_14 rfl ?_
    refine aw_iconst (v := 0) dX10_classOf_15 (by decide) ?_
    refine ap_callVi kv_X10_68 ko_X10_site (c_X10_site_0 hn hkS (by omega)) dX10_classOf_16 e_63 (l_63 hn) rfl rfl rfl rfl (ble' rfl) (by decide) ?_
    refine aw_goto 27 dX10_classOf_19 (by decide) ?_
    refine aw_iret rfl dX10_classOf_27 (ble' rfl) (ble' rfl) ?_
    exact pr_ok (by rw [cr_classOf, if_neg (fun q => q n10)]) (by rw [cl_of hkS (by omega)]) eRS e4

def cr_requestState (M : Nat → Nat → Int32) (r : Int32) : Nat := if ¬ (0 ≤ r ∧ r ≤ M 64 5 - 1) then 1 else 0
set_option maxRecDepth 100000 in
set_option maxHeartbeats 4000000 in
theorem c_X10_requestState {G : AG} {M : Nat → Nat → Int32} {n : Nat} (hn : 72 ≤ n) {nc ns nz nb nr tt : Nat} (hI : CR M nc ns nz nb nr tt)  (r : Int32) : AMet tX10_requestState yX10_requestState [Cond.code yX10_requestState cX10_requestState 2 (some .int)] [.ref 63, .int r] (wld G M) n (PR (cr_requestState M r) (V M 26 r.toNatClampNeg) G M M n) := by
  refine am_of (lo := [_, _]) (by decide) rfl (fun q => by cases q) rfl rfl rfl ?_
  refine aw_aload_n dX10_requestState_0 rfl ?_
  refine aw_iconst (v := 0) dX10_requestState_1 (by decide) ?_
  refine aw_put fp_X10_36_m dX10_requestState_2 e_63 (l_63 hn) (ble' rfl) (fun _ => ⟨rfl, rfl⟩) (hwf rfl) ?_
  obtain ⟨M', e64, e63, eRS, e4, eW⟩ : ∃ M', M 64 = M' 64 ∧ (∀ j, j ≠ 4 → M 63 j = M' 63 j) ∧ RS M M' ∧ M' 63 4 = 0 ∧ wld G (updM M 63 (upd (M 63) 4 0)) = wld G M' := ⟨_, rfl, fun j h => (if_neg h).symm, rs_1, rfl, rfl⟩
  refine aw_heq eW ?_
  rw [show cr_requestState M r = cr_requestState M' r from by unfold cr_requestState; simp only [e64, V_eq e64, rlV_eq e64, avV_eq e64, frR_eq e64, onV_eq e64, mnV_eq e64, osV_eq e64, vaV_eq e64, nsR_eq e64, nbR_eq e64, nzR_eq e64, nrR_eq e64]]
  rw [show (V M 26 r.toNatClampNeg) = (V M' 26 r.toNatClampNeg) from by simp only [e64, V_eq e64, rlV_eq e64, avV_eq e64, frR_eq e64, onV_eq e64, mnV_eq e64, osV_eq e64, vaV_eq e64, nsR_eq e64, nbR_eq e64, nzR_eq e64, nrR_eq e64]]
  have hI' : CR M' nc ns nz nb nr tt := by unfold CR at hI ⊢; rw [← e64]; exact hI
  clear hI eW
  obtain ⟨hc, hcl, hs, hsl, hz, hzl, hb, hbl, hr, hrl, ht, htl⟩ := id hI'
  have ens : nsR M' = ns := cl_of hs (by omega)
  have enb : nbR M' = nb := cl_of hb (by omega)
  have enz : nzR M' = nz := cl_of hz (by omega)
  have enr : nrR M' = nr := cl_of hr (by omega)
  refine aw_aload_n dX10_requestState_5 rfl ?_
  refine aw_iload_n dX10_requestState_6 rfl ?_
  refine ap_callVi kv_X10_171 ko_X10_isRequest (c_X10_isRequest hn _) dX10_requestState_7 e_63 (l_63 hn) rfl rfl rfl rfl (ble' rfl) (by decide) ?_
  refine aw_if_eq 22 dX10_requestState_10 (by decide) (fun c10 => ?_) (fun c10 => ?_)
  · have n10 := bI_z.mp c10
    refine aw_aload_n dX10_requestState_22 rfl ?_
    refine aw_iconst (v := 1) dX10_requestState_23 (by decide) ?_
    refine ap_callVi kv_X10_43 ko_X10_fail (c_X10_fail hn _) dX10_requestState_24 e_63 (l_63 hn) rfl rfl rfl rfl (ble' rfl) (by decide) ?_
    refine aw_iret rfl dX10_requestState_27 (ble' rfl) (ble' rfl) ?_
    exact pr_no (k := 0) (by rw [cr_requestState, if_pos n10]) (rs_tr eRS rs_1) rfl
  · have n10 := bI_nz.mp c10
    obtain ⟨kr, hkr, hkR⟩ := cls_of hr (by omega) n10
    refine aw_aload_n dX10_requestState_13 rfl ?_
    refine aw_iload_n dX10_requestState_14 rfl ?_
    refine aw_iconst (v := 3) dX10_requestState_15 (by decide) ?_
    refine ap_callVi kv_X10_156 ko_X10_requestField (c_X10_requestField_3 hn hkR (by omega)) dX10_requestState_16 e_63 (l_63 hn) rfl rfl rfl rfl (ble' rfl) (by decide) ?_
    refine aw_goto 27 dX10_requestState_19 (by decide) ?_
    refine aw_iret rfl dX10_requestState_27 (ble' rfl) (ble' rfl) ?_
    exact pr_ok (by rw [cr_requestState, if_neg (fun q => q n10)]) (by rw [cl_of hkR (by omega)]) eRS e4

def cr_bookingOf (M : Nat → Nat → Int32) (r : Int32) : Nat := if ¬ (0 ≤ r ∧ r ≤ M 64 5 - 1) then 1 else 0
set_option maxRecDepth 100000 in
set_option maxHeartbeats 4000000 in
theorem c_X10_bookingOf {G : AG} {M : Nat → Nat → Int32} {n : Nat} (hn : 72 ≤ n) {nc ns nz nb nr tt : Nat} (hI : CR M nc ns nz nb nr tt)  (r : Int32) : AMet tX10_bookingOf yX10_bookingOf [Cond.code yX10_bookingOf cX10_bookingOf 2 (some .int)] [.ref 63, .int r] (wld G M) n (PR (cr_bookingOf M r) (V M 27 r.toNatClampNeg) G M M n) := by
  refine am_of (lo := [_, _]) (by decide) rfl (fun q => by cases q) rfl rfl rfl ?_
  refine aw_aload_n dX10_bookingOf_0 rfl ?_
  refine aw_iconst (v := 0) dX10_bookingOf_1 (by decide) ?_
  refine aw_put fp_X10_36_m dX10_bookingOf_2 e_63 (l_63 hn) (ble' rfl) (fun _ => ⟨rfl, rfl⟩) (hwf rfl) ?_
  obtain ⟨M', e64, e63, eRS, e4, eW⟩ : ∃ M', M 64 = M' 64 ∧ (∀ j, j ≠ 4 → M 63 j = M' 63 j) ∧ RS M M' ∧ M' 63 4 = 0 ∧ wld G (updM M 63 (upd (M 63) 4 0)) = wld G M' := ⟨_, rfl, fun j h => (if_neg h).symm, rs_1, rfl, rfl⟩
  refine aw_heq eW ?_
  rw [show cr_bookingOf M r = cr_bookingOf M' r from by unfold cr_bookingOf; simp only [e64, V_eq e64, rlV_eq e64, avV_eq e64, frR_eq e64, onV_eq e64, mnV_eq e64, osV_eq e64, vaV_eq e64, nsR_eq e64, nbR_eq e64, nzR_eq e64, nrR_eq e64]]
  rw [show (V M 27 r.toNatClampNeg) = (V M' 27 r.toNatClampNeg) from by simp only [e64, V_eq e64, rlV_eq e64, avV_eq e64, frR_eq e64, onV_eq e64, mnV_eq e64, osV_eq e64, vaV_eq e64, nsR_eq e64, nbR_eq e64, nzR_eq e64, nrR_eq e64]]
  have hI' : CR M' nc ns nz nb nr tt := by unfold CR at hI ⊢; rw [← e64]; exact hI
  clear hI eW
  obtain ⟨hc, hcl, hs, hsl, hz, hzl, hb, hbl, hr, hrl, ht, htl⟩ := id hI'
  have ens : nsR M' = ns := cl_of hs (by omega)
  have enb : nbR M' = nb := cl_of hb (by omega)
  have enz : nzR M' = nz := cl_of hz (by omega)
  have enr : nrR M' = nr := cl_of hr (by omega)
  refine aw_aload_n dX10_bookingOf_5 rfl ?_
  refine aw_iload_n dX10_bookingOf_6 rfl ?_
  refine ap_callVi kv_X10_171 ko_X10_isRequest (c_X10_isRequest hn _) dX10_bookingOf_7 e_63 (l_63 hn) rfl rfl rfl rfl (ble' rfl) (by decide) ?_
  refine aw_if_eq 22 dX10_bookingOf_10 (by decide) (fun c10 => ?_) (fun c10 => ?_)
  · have n10 := bI_z.mp c10
    refine aw_aload_n dX10_bookingOf_22 rfl ?_
    refine aw_iconst (v := 1) dX10_bookingOf_23 (by decide) ?_
    refine ap_callVi kv_X10_43 ko_X10_fail (c_X10_fail hn _) dX10_bookingOf_24 e_63 (l_63 hn) rfl rfl rfl rfl (ble' rfl) (by decide) ?_
    refine aw_iret rfl dX10_bookingOf_27 (ble' rfl) (ble' rfl) ?_
    exact pr_no (k := 0) (by rw [cr_bookingOf, if_pos n10]) (rs_tr eRS rs_1) rfl
  · have n10 := bI_nz.mp c10
    obtain ⟨kr, hkr, hkR⟩ := cls_of hr (by omega) n10
    refine aw_aload_n dX10_bookingOf_13 rfl ?_
    refine aw_iload_n dX10_bookingOf_14 rfl ?_
    refine aw_iconst (v := 4) dX10_bookingOf_15 (by decide) ?_
    refine ap_callVi kv_X10_156 ko_X10_requestField (c_X10_requestField_4 hn hkR (by omega)) dX10_bookingOf_16 e_63 (l_63 hn) rfl rfl rfl rfl (ble' rfl) (by decide) ?_
    refine aw_goto 27 dX10_bookingOf_19 (by decide) ?_
    refine aw_iret rfl dX10_bookingOf_27 (ble' rfl) (ble' rfl) ?_
    exact pr_ok (by rw [cr_bookingOf, if_neg (fun q => q n10)]) (by rw [cl_of hkR (by omega)]) eRS e4

def cr_capacity (M : Nat → Nat → Int32) (c d : Int32) : Nat := if ¬ (0 ≤ c ∧ c ≤ M 64 1 - 1) then 1 else 0
set_option maxRecDepth 100000 in
set_option maxHeartbeats 4000000 in
theorem c_X10_capacity {G : AG} {M : Nat → Nat → Int32} {n : Nat} (hn : 72 ≤ n) {nc ns nz nb nr tt : Nat} (hI : CR M nc ns nz nb nr tt)  (c d : Int32) : AMet tX10_capacity yX10_capacity [Cond.code yX10_capacity cX10_capacity 3 (some .int)] [.ref 63, .int c, .int d] (wld G M) n (PR (cr_capacity M c d) (if M 64 0 ≤ d ∧ d ≤ 998 then nI (cnt (opB (V M 7) (V M 8) c d) (nsR M)) else 0) G M M n) := by
  refine am_of (lo := [_, _, _]) (by decide) rfl (fun q => by cases q) rfl rfl rfl ?_
  refine aw_aload_n dX10_capacity_0 rfl ?_
  refine aw_iconst (v := 0) dX10_capacity_1 (by decide) ?_
  refine aw_put fp_X10_36_m dX10_capacity_2 e_63 (l_63 hn) (ble' rfl) (fun _ => ⟨rfl, rfl⟩) (hwf rfl) ?_
  obtain ⟨M', e64, e63, eRS, e4, eW⟩ : ∃ M', M 64 = M' 64 ∧ (∀ j, j ≠ 4 → M 63 j = M' 63 j) ∧ RS M M' ∧ M' 63 4 = 0 ∧ wld G (updM M 63 (upd (M 63) 4 0)) = wld G M' := ⟨_, rfl, fun j h => (if_neg h).symm, rs_1, rfl, rfl⟩
  refine aw_heq eW ?_
  rw [show cr_capacity M c d = cr_capacity M' c d from by unfold cr_capacity; simp only [e64, V_eq e64, rlV_eq e64, avV_eq e64, frR_eq e64, onV_eq e64, mnV_eq e64, osV_eq e64, vaV_eq e64, nsR_eq e64, nbR_eq e64, nzR_eq e64, nrR_eq e64]]
  rw [show (if M 64 0 ≤ d ∧ d ≤ 998 then nI (cnt (opB (V M 7) (V M 8) c d) (nsR M)) else 0) = (if M' 64 0 ≤ d ∧ d ≤ 998 then nI (cnt (opB (V M' 7) (V M' 8) c d) (nsR M')) else 0) from by simp only [e64, V_eq e64, rlV_eq e64, avV_eq e64, frR_eq e64, onV_eq e64, mnV_eq e64, osV_eq e64, vaV_eq e64, nsR_eq e64, nbR_eq e64, nzR_eq e64, nrR_eq e64]]
  have hI' : CR M' nc ns nz nb nr tt := by unfold CR at hI ⊢; rw [← e64]; exact hI
  clear hI eW
  obtain ⟨hc, hcl, hs, hsl, hz, hzl, hb, hbl, hr, hrl, ht, htl⟩ := id hI'
  have ens : nsR M' = ns := cl_of hs (by omega)
  have enb : nbR M' = nb := cl_of hb (by omega)
  have enz : nzR M' = nz := cl_of hz (by omega)
  have enr : nrR M' = nr := cl_of hr (by omega)
  refine aw_aload_n dX10_capacity_5 rfl ?_
  refine aw_iload_n dX10_capacity_6 rfl ?_
  refine ap_callVi kv_X10_51 ko_X10_isClass (c_X10_isClass hn _) dX10_capacity_7 e_63 (l_63 hn) rfl rfl rfl rfl (ble' rfl) (by decide) ?_
  refine aw_if_eq 22 dX10_capacity_10 (by decide) (fun c10 => ?_) (fun c10 => ?_)
  · have n10 := bI_z.mp c10
    refine aw_aload_n dX10_capacity_22 rfl ?_
    refine aw_iconst (v := 1) dX10_capacity_23 (by decide) ?_
    refine ap_callVi kv_X10_43 ko_X10_fail (c_X10_fail hn _) dX10_capacity_24 e_63 (l_63 hn) rfl rfl rfl rfl (ble' rfl) (by decide) ?_
    refine aw_iret rfl dX10_capacity_27 (ble' rfl) (ble' rfl) ?_
    exact pr_no (k := 0) (by rw [cr_capacity, if_pos n10]) (rs_tr eRS rs_1) rfl
  · have n10 := bI_nz.mp c10
    obtain ⟨kc, hkc, hk⟩ := cls_of hc (by omega) n10
    refine aw_aload_n dX10_capacity_13 rfl ?_
    refine aw_iload_n dX10_capacity_14 rfl ?_
    refine aw_iload_n dX10_capacity_15 rfl ?_
    refine ap_callVi kv_X10_94 ko_X10_capacityOf (c_X10_capacityOf hn hs hsl c d) dX10_capacity_16 e_63 (l_63 hn) rfl rfl rfl rfl (ble' rfl) (by decide) ?_
    refine aw_goto 27 dX10_capacity_19 (by decide) ?_
    refine aw_iret rfl dX10_capacity_27 (ble' rfl) (ble' rfl) ?_
    exact pr_ok (by rw [cr_capacity, if_neg (fun q => q n10)]) (by rw [ens]) eRS e4

def cr_released (M : Nat → Nat → Int32) (c d : Int32) : Nat := if ¬ (0 ≤ c ∧ c ≤ M 64 1 - 1) then 1 else 0
set_option maxRecDepth 100000 in
set_option maxHeartbeats 4000000 in
theorem c_X10_released {G : AG} {M : Nat → Nat → Int32} {n : Nat} (hn : 72 ≤ n) {nc ns nz nb nr tt : Nat} (hI : CR M nc ns nz nb nr tt)  (c d : Int32) : AMet tX10_released yX10_released [Cond.code yX10_released cX10_released 3 (some .int)] [.ref 63, .int c, .int d] (wld G M) n (PR (cr_released M c d) (rlV M (nsR M) c.toNatClampNeg c d) G M M n) := by
  refine am_of (lo := [_, _, _]) (by decide) rfl (fun q => by cases q) rfl rfl rfl ?_
  refine aw_aload_n dX10_released_0 rfl ?_
  refine aw_iconst (v := 0) dX10_released_1 (by decide) ?_
  refine aw_put fp_X10_36_m dX10_released_2 e_63 (l_63 hn) (ble' rfl) (fun _ => ⟨rfl, rfl⟩) (hwf rfl) ?_
  obtain ⟨M', e64, e63, eRS, e4, eW⟩ : ∃ M', M 64 = M' 64 ∧ (∀ j, j ≠ 4 → M 63 j = M' 63 j) ∧ RS M M' ∧ M' 63 4 = 0 ∧ wld G (updM M 63 (upd (M 63) 4 0)) = wld G M' := ⟨_, rfl, fun j h => (if_neg h).symm, rs_1, rfl, rfl⟩
  refine aw_heq eW ?_
  rw [show cr_released M c d = cr_released M' c d from by unfold cr_released; simp only [e64, V_eq e64, rlV_eq e64, avV_eq e64, frR_eq e64, onV_eq e64, mnV_eq e64, osV_eq e64, vaV_eq e64, nsR_eq e64, nbR_eq e64, nzR_eq e64, nrR_eq e64]]
  rw [show (rlV M (nsR M) c.toNatClampNeg c d) = (rlV M' (nsR M') c.toNatClampNeg c d) from by simp only [e64, V_eq e64, rlV_eq e64, avV_eq e64, frR_eq e64, onV_eq e64, mnV_eq e64, osV_eq e64, vaV_eq e64, nsR_eq e64, nbR_eq e64, nzR_eq e64, nrR_eq e64]]
  have hI' : CR M' nc ns nz nb nr tt := by unfold CR at hI ⊢; rw [← e64]; exact hI
  clear hI eW
  obtain ⟨hc, hcl, hs, hsl, hz, hzl, hb, hbl, hr, hrl, ht, htl⟩ := id hI'
  have ens : nsR M' = ns := cl_of hs (by omega)
  have enb : nbR M' = nb := cl_of hb (by omega)
  have enz : nzR M' = nz := cl_of hz (by omega)
  have enr : nrR M' = nr := cl_of hr (by omega)
  refine aw_aload_n dX10_released_5 rfl ?_
  refine aw_iload_n dX10_released_6 rfl ?_
  refine ap_callVi kv_X10_51 ko_X10_isClass (c_X10_isClass hn _) dX10_released_7 e_63 (l_63 hn) rfl rfl rfl rfl (ble' rfl) (by decide) ?_
  refine aw_if_eq 22 dX10_released_10 (by decide) (fun c10 => ?_) (fun c10 => ?_)
  · have n10 := bI_z.mp c10
    refine aw_aload_n dX10_released_22 rfl ?_
    refine aw_iconst (v := 1) dX10_released_23 (by decide) ?_
    refine ap_callVi kv_X10_43 ko_X10_fail (c_X10_fail hn _) dX10_released_24 e_63 (l_63 hn) rfl rfl rfl rfl (ble' rfl) (by decide) ?_
    refine aw_iret rfl dX10_released_27 (ble' rfl) (ble' rfl) ?_
    exact pr_no (k := 0) (by rw [cr_released, if_pos n10]) (rs_tr eRS rs_1) rfl
  · have n10 := bI_nz.mp c10
    obtain ⟨kc, hkc, hk⟩ := cls_of hc (by omega) n10
    refine aw_aload_n dX10_released_13 rfl ?_
    refine aw_iload_n dX10_released_14 rfl ?_
    refine aw_iload_n dX10_released_15 rfl ?_
    refine ap_callVi kv_X10_108 ko_X10_releasedOf (c_X10_releasedOf hn hs hsl hk (by omega) d) dX10_released_16 e_63 (l_63 hn) rfl rfl rfl rfl (ble' rfl) (by decide) ?_
    refine aw_goto 27 dX10_released_19 (by decide) ?_
    refine aw_iret rfl dX10_released_27 (ble' rfl) (ble' rfl) ?_
    exact pr_ok (by rw [cr_released, if_neg (fun q => q n10)]) (by rw [ens, cl_of hk (by omega)]) eRS e4

def cr_taken (M : Nat → Nat → Int32) (c d : Int32) : Nat := if ¬ (0 ≤ c ∧ c ≤ M 64 1 - 1) then 1 else 0
set_option maxRecDepth 100000 in
set_option maxHeartbeats 4000000 in
theorem c_X10_taken {G : AG} {M : Nat → Nat → Int32} {n : Nat} (hn : 72 ≤ n) {nc ns nz nb nr tt : Nat} (hI : CR M nc ns nz nb nr tt)  (c d : Int32) : AMet tX10_taken yX10_taken [Cond.code yX10_taken cX10_taken 3 (some .int)] [.ref 63, .int c, .int d] (wld G M) n (PR (cr_taken M c d) (nI (cnt (tkB (V M 16) (V M 17) (V M 18) (V M 20) c d) (nbR M))) G M M n) := by
  refine am_of (lo := [_, _, _]) (by decide) rfl (fun q => by cases q) rfl rfl rfl ?_
  refine aw_aload_n dX10_taken_0 rfl ?_
  refine aw_iconst (v := 0) dX10_taken_1 (by decide) ?_
  refine aw_put fp_X10_36_m dX10_taken_2 e_63 (l_63 hn) (ble' rfl) (fun _ => ⟨rfl, rfl⟩) (hwf rfl) ?_
  obtain ⟨M', e64, e63, eRS, e4, eW⟩ : ∃ M', M 64 = M' 64 ∧ (∀ j, j ≠ 4 → M 63 j = M' 63 j) ∧ RS M M' ∧ M' 63 4 = 0 ∧ wld G (updM M 63 (upd (M 63) 4 0)) = wld G M' := ⟨_, rfl, fun j h => (if_neg h).symm, rs_1, rfl, rfl⟩
  refine aw_heq eW ?_
  rw [show cr_taken M c d = cr_taken M' c d from by unfold cr_taken; simp only [e64, V_eq e64, rlV_eq e64, avV_eq e64, frR_eq e64, onV_eq e64, mnV_eq e64, osV_eq e64, vaV_eq e64, nsR_eq e64, nbR_eq e64, nzR_eq e64, nrR_eq e64]]
  rw [show (nI (cnt (tkB (V M 16) (V M 17) (V M 18) (V M 20) c d) (nbR M))) = (nI (cnt (tkB (V M' 16) (V M' 17) (V M' 18) (V M' 20) c d) (nbR M'))) from by simp only [e64, V_eq e64, rlV_eq e64, avV_eq e64, frR_eq e64, onV_eq e64, mnV_eq e64, osV_eq e64, vaV_eq e64, nsR_eq e64, nbR_eq e64, nzR_eq e64, nrR_eq e64]]
  have hI' : CR M' nc ns nz nb nr tt := by unfold CR at hI ⊢; rw [← e64]; exact hI
  clear hI eW
  obtain ⟨hc, hcl, hs, hsl, hz, hzl, hb, hbl, hr, hrl, ht, htl⟩ := id hI'
  have ens : nsR M' = ns := cl_of hs (by omega)
  have enb : nbR M' = nb := cl_of hb (by omega)
  have enz : nzR M' = nz := cl_of hz (by omega)
  have enr : nrR M' = nr := cl_of hr (by omega)
  refine aw_aload_n dX10_taken_5 rfl ?_
  refine aw_iload_n dX10_taken_6 rfl ?_
  refine ap_callVi kv_X10_51 ko_X10_isClass (c_X10_isClass hn _) dX10_taken_7 e_63 (l_63 hn) rfl rfl rfl rfl (ble' rfl) (by decide) ?_
  refine aw_if_eq 22 dX10_taken_10 (by decide) (fun c10 => ?_) (fun c10 => ?_)
  · have n10 := bI_z.mp c10
    refine aw_aload_n dX10_taken_22 rfl ?_
    refine aw_iconst (v := 1) dX10_taken_23 (by decide) ?_
    refine ap_callVi kv_X10_43 ko_X10_fail (c_X10_fail hn _) dX10_taken_24 e_63 (l_63 hn) rfl rfl rfl rfl (ble' rfl) (by decide) ?_
    refine aw_iret rfl dX10_taken_27 (ble' rfl) (ble' rfl) ?_
    exact pr_no (k := 0) (by rw [cr_taken, if_pos n10]) (rs_tr eRS rs_1) rfl
  · have n10 := bI_nz.mp c10
    obtain ⟨kc, hkc, hk⟩ := cls_of hc (by omega) n10
    refine aw_aload_n dX10_taken_13 rfl ?_
    refine aw_iload_n dX10_taken_14 rfl ?_
    refine aw_iload_n dX10_taken_15 rfl ?_
    refine ap_callVi kv_X10_111 ko_X10_takenOf (c_X10_takenOf hn hb hbl c d) dX10_taken_16 e_63 (l_63 hn) rfl rfl rfl rfl (ble' rfl) (by decide) ?_
    refine aw_goto 27 dX10_taken_19 (by decide) ?_
    refine aw_iret rfl dX10_taken_27 (ble' rfl) (ble' rfl) ?_
    exact pr_ok (by rw [cr_taken, if_neg (fun q => q n10)]) (by rw [enb]) eRS e4

def cr_available (M : Nat → Nat → Int32) (c d : Int32) : Nat := if ¬ (0 ≤ c ∧ c ≤ M 64 1 - 1) then 1 else 0
set_option maxRecDepth 100000 in
set_option maxHeartbeats 4000000 in
theorem c_X10_available {G : AG} {M : Nat → Nat → Int32} {n : Nat} (hn : 72 ≤ n) {nc ns nz nb nr tt : Nat} (hI : CR M nc ns nz nb nr tt)  (c d : Int32) : AMet tX10_available yX10_available [Cond.code yX10_available cX10_available 3 (some .int)] [.ref 63, .int c, .int d] (wld G M) n (PR (cr_available M c d) (avV M (nsR M) (nbR M) c.toNatClampNeg c d) G M M n) := by
  refine am_of (lo := [_, _, _]) (by decide) rfl (fun q => by cases q) rfl rfl rfl ?_
  refine aw_aload_n dX10_available_0 rfl ?_
  refine aw_iconst (v := 0) dX10_available_1 (by decide) ?_
  refine aw_put fp_X10_36_m dX10_available_2 e_63 (l_63 hn) (ble' rfl) (fun _ => ⟨rfl, rfl⟩) (hwf rfl) ?_
  obtain ⟨M', e64, e63, eRS, e4, eW⟩ : ∃ M', M 64 = M' 64 ∧ (∀ j, j ≠ 4 → M 63 j = M' 63 j) ∧ RS M M' ∧ M' 63 4 = 0 ∧ wld G (updM M 63 (upd (M 63) 4 0)) = wld G M' := ⟨_, rfl, fun j h => (if_neg h).symm, rs_1, rfl, rfl⟩
  refine aw_heq eW ?_
  rw [show cr_available M c d = cr_available M' c d from by unfold cr_available; simp only [e64, V_eq e64, rlV_eq e64, avV_eq e64, frR_eq e64, onV_eq e64, mnV_eq e64, osV_eq e64, vaV_eq e64, nsR_eq e64, nbR_eq e64, nzR_eq e64, nrR_eq e64]]
  rw [show (avV M (nsR M) (nbR M) c.toNatClampNeg c d) = (avV M' (nsR M') (nbR M') c.toNatClampNeg c d) from by simp only [e64, V_eq e64, rlV_eq e64, avV_eq e64, frR_eq e64, onV_eq e64, mnV_eq e64, osV_eq e64, vaV_eq e64, nsR_eq e64, nbR_eq e64, nzR_eq e64, nrR_eq e64]]
  have hI' : CR M' nc ns nz nb nr tt := by unfold CR at hI ⊢; rw [← e64]; exact hI
  clear hI eW
  obtain ⟨hc, hcl, hs, hsl, hz, hzl, hb, hbl, hr, hrl, ht, htl⟩ := id hI'
  have ens : nsR M' = ns := cl_of hs (by omega)
  have enb : nbR M' = nb := cl_of hb (by omega)
  have enz : nzR M' = nz := cl_of hz (by omega)
  have enr : nrR M' = nr := cl_of hr (by omega)
  refine aw_aload_n dX10_available_5 rfl ?_
  refine aw_iload_n dX10_available_6 rfl ?_
  refine ap_callVi kv_X10_51 ko_X10_isClass (c_X10_isClass hn _) dX10_available_7 e_63 (l_63 hn) rfl rfl rfl rfl (ble' rfl) (by decide) ?_
  refine aw_if_eq 22 dX10_available_10 (by decide) (fun c10 => ?_) (fun c10 => ?_)
  · have n10 := bI_z.mp c10
    refine aw_aload_n dX10_available_22 rfl ?_
    refine aw_iconst (v := 1) dX10_available_23 (by decide) ?_
    refine ap_callVi kv_X10_43 ko_X10_fail (c_X10_fail hn _) dX10_available_24 e_63 (l_63 hn) rfl rfl rfl rfl (ble' rfl) (by decide) ?_
    refine aw_iret rfl dX10_available_27 (ble' rfl) (ble' rfl) ?_
    exact pr_no (k := 0) (by rw [cr_available, if_pos n10]) (rs_tr eRS rs_1) rfl
  · have n10 := bI_nz.mp c10
    obtain ⟨kc, hkc, hk⟩ := cls_of hc (by omega) n10
    refine aw_aload_n dX10_available_13 rfl ?_
    refine aw_iload_n dX10_available_14 rfl ?_
    refine aw_iload_n dX10_available_15 rfl ?_
    refine ap_callVi kv_X10_117 ko_X10_availableOf (c_X10_availableOf hn hs hsl hb hbl hk (by omega) d) dX10_available_16 e_63 (l_63 hn) rfl rfl rfl rfl (ble' rfl) (by decide) ?_
    refine aw_goto 27 dX10_available_19 (by decide) ?_
    refine aw_iret rfl dX10_available_27 (ble' rfl) (ble' rfl) ?_
    exact pr_ok (by rw [cr_available, if_neg (fun q => q n10)]) (by rw [ens, enb, cl_of hk (by omega)]) eRS e4

def cr_vacantSite (M : Nat → Nat → Int32) (c : Int32) : Nat := if ¬ (0 ≤ c ∧ c ≤ M 64 1 - 1) then 1 else 0
set_option maxRecDepth 100000 in
set_option maxHeartbeats 4000000 in
theorem c_X10_vacantSite {G : AG} {M : Nat → Nat → Int32} {n : Nat} (hn : 72 ≤ n) {nc ns nz nb nr tt : Nat} (hI : CR M nc ns nz nb nr tt)  (c : Int32) : AMet tX10_vacantSite yX10_vacantSite [Cond.code yX10_vacantSite cX10_vacantSite 2 (some .int)] [.ref 63, .int c] (wld G M) n (PR (cr_vacantSite M c) (fstN (fun k => decide (V M 7 k = c) && vaV M (nbR M) (nI k) k) (nsR M)) G M M n) := by
  refine am_of (lo := [_, _]) (by decide) rfl (fun q => by cases q) rfl rfl rfl ?_
  refine aw_aload_n dX10_vacantSite_0 rfl ?_
  refine aw_iconst (v := 0) dX10_vacantSite_1 (by decide) ?_
  refine aw_put fp_X10_36_m dX10_vacantSite_2 e_63 (l_63 hn) (ble' rfl) (fun _ => ⟨rfl, rfl⟩) (hwf rfl) ?_
  obtain ⟨M', e64, e63, eRS, e4, eW⟩ : ∃ M', M 64 = M' 64 ∧ (∀ j, j ≠ 4 → M 63 j = M' 63 j) ∧ RS M M' ∧ M' 63 4 = 0 ∧ wld G (updM M 63 (upd (M 63) 4 0)) = wld G M' := ⟨_, rfl, fun j h => (if_neg h).symm, rs_1, rfl, rfl⟩
  refine aw_heq eW ?_
  rw [show cr_vacantSite M c = cr_vacantSite M' c from by unfold cr_vacantSite; simp only [e64, V_eq e64, rlV_eq e64, avV_eq e64, frR_eq e64, onV_eq e64, mnV_eq e64, osV_eq e64, vaV_eq e64, nsR_eq e64, nbR_eq e64, nzR_eq e64, nrR_eq e64]]
  rw [show (fstN (fun k => decide (V M 7 k = c) && vaV M (nbR M) (nI k) k) (nsR M)) = (fstN (fun k => decide (V M' 7 k = c) && vaV M' (nbR M') (nI k) k) (nsR M')) from by simp only [e64, V_eq e64, rlV_eq e64, avV_eq e64, frR_eq e64, onV_eq e64, mnV_eq e64, osV_eq e64, vaV_eq e64, nsR_eq e64, nbR_eq e64, nzR_eq e64, nrR_eq e64]]
  have hI' : CR M' nc ns nz nb nr tt := by unfold CR at hI ⊢; rw [← e64]; exact hI
  clear hI eW
  obtain ⟨hc, hcl, hs, hsl, hz, hzl, hb, hbl, hr, hrl, ht, htl⟩ := id hI'
  have ens : nsR M' = ns := cl_of hs (by omega)
  have enb : nbR M' = nb := cl_of hb (by omega)
  have enz : nzR M' = nz := cl_of hz (by omega)
  have enr : nrR M' = nr := cl_of hr (by omega)
  refine aw_aload_n dX10_vacantSite_5 rfl ?_
  refine aw_iload_n dX10_vacantSite_6 rfl ?_
  refine ap_callVi kv_X10_51 ko_X10_isClass (c_X10_isClass hn _) dX10_vacantSite_7 e_63 (l_63 hn) rfl rfl rfl rfl (ble' rfl) (by decide) ?_
  refine aw_if_eq 21 dX10_vacantSite_10 (by decide) (fun c10 => ?_) (fun c10 => ?_)
  · have n10 := bI_z.mp c10
    refine aw_aload_n dX10_vacantSite_21 rfl ?_
    refine aw_iconst (v := 1) dX10_vacantSite_22 (by decide) ?_
    refine ap_callVi kv_X10_43 ko_X10_fail (c_X10_fail hn _) dX10_vacantSite_23 e_63 (l_63 hn) rfl rfl rfl rfl (ble' rfl) (by decide) ?_
    refine aw_iret rfl dX10_vacantSite_26 (ble' rfl) (ble' rfl) ?_
    exact pr_no (k := 0) (by rw [cr_vacantSite, if_pos n10]) (rs_tr eRS rs_1) rfl
  · have n10 := bI_nz.mp c10
    refine aw_aload_n dX10_vacantSite_13 rfl ?_
    refine aw_iload_n dX10_vacantSite_14 rfl ?_
    refine ap_callVi kv_X10_153 ko_X10_vacantSiteOf (c_X10_vacantSiteOf hn hs hsl hb hbl c) dX10_vacantSite_15 e_63 (l_63 hn) rfl rfl rfl rfl (ble' rfl) (by decide) ?_
    refine aw_goto 26 dX10_vacantSite_18 (by decide) ?_
    refine aw_iret rfl dX10_vacantSite_26 (ble' rfl) (ble' rfl) ?_
    exact pr_ok (by rw [cr_vacantSite, if_neg (fun q => q n10)]) (by rw [ens, enb]) eRS e4

def cr_minimum (M : Nat → Nat → Int32) (c d : Int32) : Nat := if ¬ (0 ≤ c ∧ c ≤ M 64 1 - 1) then 1 else if ¬ (0 ≤ d ∧ d ≤ 999) then 2 else 0
set_option maxRecDepth 100000 in
set_option maxHeartbeats 4000000 in
theorem c_X10_minimum {G : AG} {M : Nat → Nat → Int32} {n : Nat} (hn : 72 ≤ n) {nc ns nz nb nr tt : Nat} (hI : CR M nc ns nz nb nr tt)  (c d : Int32) : AMet tX10_minimum yX10_minimum [Cond.code yX10_minimum cX10_minimum 3 (some .int)] [.ref 63, .int c, .int d] (wld G M) n (PR (cr_minimum M c d) (sval (seasN (V M 10) (V M 11) (V M 12) c d (nzR M)) (V M 13) 1) G M M n) := by
  refine am_of (lo := [_, _, _]) (by decide) rfl (fun q => by cases q) rfl rfl rfl ?_
  refine aw_aload_n dX10_minimum_0 rfl ?_
  refine aw_iconst (v := 0) dX10_minimum_1 (by decide) ?_
  refine aw_put fp_X10_36_m dX10_minimum_2 e_63 (l_63 hn) (ble' rfl) (fun _ => ⟨rfl, rfl⟩) (hwf rfl) ?_
  obtain ⟨M', e64, e63, eRS, e4, eW⟩ : ∃ M', M 64 = M' 64 ∧ (∀ j, j ≠ 4 → M 63 j = M' 63 j) ∧ RS M M' ∧ M' 63 4 = 0 ∧ wld G (updM M 63 (upd (M 63) 4 0)) = wld G M' := ⟨_, rfl, fun j h => (if_neg h).symm, rs_1, rfl, rfl⟩
  refine aw_heq eW ?_
  rw [show cr_minimum M c d = cr_minimum M' c d from by unfold cr_minimum; simp only [e64, V_eq e64, rlV_eq e64, avV_eq e64, frR_eq e64, onV_eq e64, mnV_eq e64, osV_eq e64, vaV_eq e64, nsR_eq e64, nbR_eq e64, nzR_eq e64, nrR_eq e64]]
  rw [show (sval (seasN (V M 10) (V M 11) (V M 12) c d (nzR M)) (V M 13) 1) = (sval (seasN (V M' 10) (V M' 11) (V M' 12) c d (nzR M')) (V M' 13) 1) from by simp only [e64, V_eq e64, rlV_eq e64, avV_eq e64, frR_eq e64, onV_eq e64, mnV_eq e64, osV_eq e64, vaV_eq e64, nsR_eq e64, nbR_eq e64, nzR_eq e64, nrR_eq e64]]
  have hI' : CR M' nc ns nz nb nr tt := by unfold CR at hI ⊢; rw [← e64]; exact hI
  clear hI eW
  obtain ⟨hc, hcl, hs, hsl, hz, hzl, hb, hbl, hr, hrl, ht, htl⟩ := id hI'
  have ens : nsR M' = ns := cl_of hs (by omega)
  have enb : nbR M' = nb := cl_of hb (by omega)
  have enz : nzR M' = nz := cl_of hz (by omega)
  have enr : nrR M' = nr := cl_of hr (by omega)
  refine aw_aload_n dX10_minimum_5 rfl ?_
  refine aw_iload_n dX10_minimum_6 rfl ?_
  refine ap_callVi kv_X10_51 ko_X10_isClass (c_X10_isClass hn _) dX10_minimum_7 e_63 (l_63 hn) rfl rfl rfl rfl (ble' rfl) (by decide) ?_
  refine aw_if_ne 19 dX10_minimum_10 (by decide) (fun c10 => ?_) (fun c10 => ?_)
  · have n10 := bI_nz.mp c10
    refine aw_iload_n dX10_minimum_19 rfl ?_
    refine ap_callSi ks_X10_58 ko_X10_isDay (c_X10_isDay _) dX10_minimum_20 rfl rfl (ble' rfl) (by decide) ?_
    refine aw_if_eq 35 dX10_minimum_23 (by decide) (fun c23 => ?_) (fun c23 => ?_)
    · have n23 := bI_z.mp c23
      refine aw_aload_n dX10_minimum_35 rfl ?_
      refine aw_iconst (v := 2) dX10_minimum_36 (by decide) ?_
      refine ap_callVi kv_X10_43 ko_X10_fail (c_X10_fail hn _) dX10_minimum_37 e_63 (l_63 hn) rfl rfl rfl rfl (ble' rfl) (by decide) ?_
      refine aw_iret rfl dX10_minimum_40 (ble' rfl) (ble' rfl) ?_
      exact pr_no (k := 1) (by rw [cr_minimum, if_neg (fun q => q n10), if_pos n23]) (rs_tr eRS rs_1) rfl
    · have n23 := bI_nz.mp c23
      refine aw_aload_n dX10_minimum_26 rfl ?_
      refine aw_iload_n dX10_minimum_27 rfl ?_
      refine aw_iload_n dX10_minimum_28 rfl ?_
      refine ap_callVi kv_X10_81 ko_X10_minimumOf (c_X10_minimumOf hn hz hzl c d) dX10_minimum_29 e_63 (l_63 hn) rfl rfl rfl rfl (ble' rfl) (by decide) ?_
      refine aw_goto 40 dX10_minimum_32 (by decide) ?_
      refine aw_iret rfl dX10_minimum_40 (ble' rfl) (ble' rfl) ?_
      exact pr_ok (by rw [cr_minimum, if_neg (fun q => q n10), if_neg (fun q => q n23)]) (by rw [enz]) eRS e4
  · have n10 := bI_z.mp c10
    refine aw_aload_n dX10_minimum_13 rfl ?_
    refine aw_iconst (v := 1) dX10_minimum_14 (by decide) ?_
    refine ap_callVi kv_X10_43 ko_X10_fail (c_X10_fail hn _) dX10_minimum_15 e_63 (l_63 hn) rfl rfl rfl rfl (ble' rfl) (by decide) ?_
    refine aw_iret rfl dX10_minimum_18 (ble' rfl) (ble' rfl) ?_
    exact pr_no (k := 0) (by rw [cr_minimum, if_pos n10]) (rs_tr eRS rs_1) rfl

def cr_price (M : Nat → Nat → Int32) (c d : Int32) : Nat := if ¬ (0 ≤ c ∧ c ≤ M 64 1 - 1) then 1 else if ¬ (0 ≤ d ∧ d ≤ 999) then 2 else 0
set_option maxRecDepth 100000 in
set_option maxHeartbeats 4000000 in
theorem c_X10_price {G : AG} {M : Nat → Nat → Int32} {n : Nat} (hn : 72 ≤ n) {nc ns nz nb nr tt : Nat} (hI : CR M nc ns nz nb nr tt)  (c d : Int32) : AMet tX10_price yX10_price [Cond.code yX10_price cX10_price 3 (some .int)] [.ref 63, .int c, .int d] (wld G M) n (PR (cr_price M c d) (sval (seasN (V M 10) (V M 11) (V M 12) c d (nzR M)) (V M 14) 20) G M M n) := by
  refine am_of (lo := [_, _, _]) (by decide) rfl (fun q => by cases q) rfl rfl rfl ?_
  refine aw_aload_n dX10_price_0 rfl ?_
  refine aw_iconst (v := 0) dX10_price_1 (by decide) ?_
  refine aw_put fp_X10_36_m dX10_price_2 e_63 (l_63 hn) (ble' rfl) (fun _ => ⟨rfl, rfl⟩) (hwf rfl) ?_
  obtain ⟨M', e64, e63, eRS, e4, eW⟩ : ∃ M', M 64 = M' 64 ∧ (∀ j, j ≠ 4 → M 63 j = M' 63 j) ∧ RS M M' ∧ M' 63 4 = 0 ∧ wld G (updM M 63 (upd (M 63) 4 0)) = wld G M' := ⟨_, rfl, fun j h => (if_neg h).symm, rs_1, rfl, rfl⟩
  refine aw_heq eW ?_
  rw [show cr_price M c d = cr_price M' c d from by unfold cr_price; simp only [e64, V_eq e64, rlV_eq e64, avV_eq e64, frR_eq e64, onV_eq e64, mnV_eq e64, osV_eq e64, vaV_eq e64, nsR_eq e64, nbR_eq e64, nzR_eq e64, nrR_eq e64]]
  rw [show (sval (seasN (V M 10) (V M 11) (V M 12) c d (nzR M)) (V M 14) 20) = (sval (seasN (V M' 10) (V M' 11) (V M' 12) c d (nzR M')) (V M' 14) 20) from by simp only [e64, V_eq e64, rlV_eq e64, avV_eq e64, frR_eq e64, onV_eq e64, mnV_eq e64, osV_eq e64, vaV_eq e64, nsR_eq e64, nbR_eq e64, nzR_eq e64, nrR_eq e64]]
  have hI' : CR M' nc ns nz nb nr tt := by unfold CR at hI ⊢; rw [← e64]; exact hI
  clear hI eW
  obtain ⟨hc, hcl, hs, hsl, hz, hzl, hb, hbl, hr, hrl, ht, htl⟩ := id hI'
  have ens : nsR M' = ns := cl_of hs (by omega)
  have enb : nbR M' = nb := cl_of hb (by omega)
  have enz : nzR M' = nz := cl_of hz (by omega)
  have enr : nrR M' = nr := cl_of hr (by omega)
  refine aw_aload_n dX10_price_5 rfl ?_
  refine aw_iload_n dX10_price_6 rfl ?_
  refine ap_callVi kv_X10_51 ko_X10_isClass (c_X10_isClass hn _) dX10_price_7 e_63 (l_63 hn) rfl rfl rfl rfl (ble' rfl) (by decide) ?_
  refine aw_if_ne 19 dX10_price_10 (by decide) (fun c10 => ?_) (fun c10 => ?_)
  · have n10 := bI_nz.mp c10
    refine aw_iload_n dX10_price_19 rfl ?_
    refine ap_callSi ks_X10_58 ko_X10_isDay (c_X10_isDay _) dX10_price_20 rfl rfl (ble' rfl) (by decide) ?_
    refine aw_if_eq 35 dX10_price_23 (by decide) (fun c23 => ?_) (fun c23 => ?_)
    · have n23 := bI_z.mp c23
      refine aw_aload_n dX10_price_35 rfl ?_
      refine aw_iconst (v := 2) dX10_price_36 (by decide) ?_
      refine ap_callVi kv_X10_43 ko_X10_fail (c_X10_fail hn _) dX10_price_37 e_63 (l_63 hn) rfl rfl rfl rfl (ble' rfl) (by decide) ?_
      refine aw_iret rfl dX10_price_40 (ble' rfl) (ble' rfl) ?_
      exact pr_no (k := 1) (by rw [cr_price, if_neg (fun q => q n10), if_pos n23]) (rs_tr eRS rs_1) rfl
    · have n23 := bI_nz.mp c23
      refine aw_aload_n dX10_price_26 rfl ?_
      refine aw_iload_n dX10_price_27 rfl ?_
      refine aw_iload_n dX10_price_28 rfl ?_
      refine ap_callVi kv_X10_78 ko_X10_priceOf (c_X10_priceOf hn hz hzl c d) dX10_price_29 e_63 (l_63 hn) rfl rfl rfl rfl (ble' rfl) (by decide) ?_
      refine aw_goto 40 dX10_price_32 (by decide) ?_
      refine aw_iret rfl dX10_price_40 (ble' rfl) (ble' rfl) ?_
      exact pr_ok (by rw [cr_price, if_neg (fun q => q n10), if_neg (fun q => q n23)]) (by rw [enz]) eRS e4
  · have n10 := bI_z.mp c10
    refine aw_aload_n dX10_price_13 rfl ?_
    refine aw_iconst (v := 1) dX10_price_14 (by decide) ?_
    refine ap_callVi kv_X10_43 ko_X10_fail (c_X10_fail hn _) dX10_price_15 e_63 (l_63 hn) rfl rfl rfl rfl (ble' rfl) (by decide) ?_
    refine aw_iret rfl dX10_price_18 (ble' rfl) (ble' rfl) ?_
    exact pr_no (k := 0) (by rw [cr_price, if_pos n10]) (rs_tr eRS rs_1) rfl

theorem stay_of {m : Int32} (h : 1 ≤ m ∧ m ≤ 28) : ∃ k, 1 ≤ k ∧ k ≤ 28 ∧ m = nI k := by
  obtain ⟨h1, h2⟩ := h
  rw [Int32.le_iff_toInt_le] at h1
  have e1 : (1 : Int32).toInt = 1 := by decide
  have h0 : ¬ m < 0 := by
    rw [Int32.lt_iff_toInt_lt]
    have : (0 : Int32).toInt = 0 := by decide
    omega
  obtain ⟨k, hk, rfl⟩ := nI_of h0
  rw [nI_toInt hk] at h1
  exact ⟨k, by omega, le_of_le rfl (show (28 : Int32) = nI 28 from rfl) (by omega) (by decide) h2, rfl⟩
def cr_obstacle (M : Nat → Nat → Int32) (c a m : Int32) : Nat := if ¬ (0 ≤ c ∧ c ≤ M 64 1 - 1) then 1 else if ¬ (1 ≤ m ∧ m ≤ 28) then 2 else 0
set_option maxRecDepth 100000 in
set_option maxHeartbeats 4000000 in
theorem c_X10_obstacle {G : AG} {M : Nat → Nat → Int32} {n : Nat} (hn : 72 ≤ n) {nc ns nz nb nr tt : Nat} (hI : CR M nc ns nz nb nr tt)  (c a m : Int32) : AMet tX10_obstacle yX10_obstacle [Cond.code yX10_obstacle cX10_obstacle 4 (some .int)] [.ref 63, .int c, .int a, .int m] (wld G M) n (PR (cr_obstacle M c a m) (osV M (nsR M) (nbR M) (nzR M) c.toNatClampNeg c a m) G M M n) := by
  refine am_of (lo := [_, _, _, _]) (by decide) rfl (fun q => by cases q) rfl rfl rfl ?_
  refine aw_aload_n dX10_obstacle_0 rfl ?_
  refine aw_iconst (v := 0) dX10_obstacle_1 (by decide) ?_
  refine aw_put fp_X10_36_m dX10_obstacle_2 e_63 (l_63 hn) (ble' rfl) (fun _ => ⟨rfl, rfl⟩) (hwf rfl) ?_
  obtain ⟨M', e64, e63, eRS, e4, eW⟩ : ∃ M', M 64 = M' 64 ∧ (∀ j, j ≠ 4 → M 63 j = M' 63 j) ∧ RS M M' ∧ M' 63 4 = 0 ∧ wld G (updM M 63 (upd (M 63) 4 0)) = wld G M' := ⟨_, rfl, fun j h => (if_neg h).symm, rs_1, rfl, rfl⟩
  refine aw_heq eW ?_
  rw [show cr_obstacle M c a m = cr_obstacle M' c a m from by unfold cr_obstacle; simp only [e64, V_eq e64, rlV_eq e64, avV_eq e64, frR_eq e64, onV_eq e64, mnV_eq e64, osV_eq e64, vaV_eq e64, nsR_eq e64, nbR_eq e64, nzR_eq e64, nrR_eq e64]]
  rw [show (osV M (nsR M) (nbR M) (nzR M) c.toNatClampNeg c a m) = (osV M' (nsR M') (nbR M') (nzR M') c.toNatClampNeg c a m) from by simp only [e64, V_eq e64, rlV_eq e64, avV_eq e64, frR_eq e64, onV_eq e64, mnV_eq e64, osV_eq e64, vaV_eq e64, nsR_eq e64, nbR_eq e64, nzR_eq e64, nrR_eq e64]]
  have hI' : CR M' nc ns nz nb nr tt := by unfold CR at hI ⊢; rw [← e64]; exact hI
  clear hI eW
  obtain ⟨hc, hcl, hs, hsl, hz, hzl, hb, hbl, hr, hrl, ht, htl⟩ := id hI'
  have ens : nsR M' = ns := cl_of hs (by omega)
  have enb : nbR M' = nb := cl_of hb (by omega)
  have enz : nzR M' = nz := cl_of hz (by omega)
  have enr : nrR M' = nr := cl_of hr (by omega)
  refine aw_aload_n dX10_obstacle_5 rfl ?_
  refine aw_iload_n dX10_obstacle_6 rfl ?_
  refine ap_callVi kv_X10_51 ko_X10_isClass (c_X10_isClass hn _) dX10_obstacle_7 e_63 (l_63 hn) rfl rfl rfl rfl (ble' rfl) (by decide) ?_
  refine aw_if_ne 19 dX10_obstacle_10 (by decide) (fun c10 => ?_) (fun c10 => ?_)
  · have n10 := bI_nz.mp c10
    obtain ⟨kc, hkc, hk⟩ := cls_of hc (by omega) n10
    refine aw_iload_n dX10_obstacle_19 rfl ?_
    refine ap_callSi ks_X10_125 ko_X10_isStay (c_X10_isStay _) dX10_obstacle_20 rfl rfl (ble' rfl) (by decide) ?_
    refine aw_if_eq 36 dX10_obstacle_23 (by decide) (fun c23 => ?_) (fun c23 => ?_)
    · have n23 := bI_z.mp c23
      refine aw_aload_n dX10_obstacle_36 rfl ?_
      refine aw_iconst (v := 2) dX10_obstacle_37 (by decide) ?_
      refine ap_callVi kv_X10_43 ko_X10_fail (c_X10_fail hn _) dX10_obstacle_38 e_63 (l_63 hn) rfl rfl rfl rfl (ble' rfl) (by decide) ?_
      refine aw_iret rfl dX10_obstacle_41 (ble' rfl) (ble' rfl) ?_
      exact pr_no (k := 1) (by rw [cr_obstacle, if_neg (fun q => q n10), if_pos n23]) (rs_tr eRS rs_1) rfl
    · have n23 := bI_nz.mp c23
      obtain ⟨mm, hm1, hm9, hm⟩ := stay_of n23
      refine aw_aload_n dX10_obstacle_26 rfl ?_
      refine aw_iload_n dX10_obstacle_27 rfl ?_
      refine aw_iload_n dX10_obstacle_28 rfl ?_
      refine aw_iload_n dX10_obstacle_29 rfl ?_
      refine ap_callVi kv_X10_128 ko_X10_obstacleOf (c_X10_obstacleOf hn hs hsl hb hbl hk (by omega) hz hzl ht htl hm hm1 hm9) dX10_obstacle_30 e_63 (l_63 hn) rfl rfl rfl rfl (ble' rfl) (by decide) ?_
      refine aw_goto 41 dX10_obstacle_33 (by decide) ?_
      refine aw_iret rfl dX10_obstacle_41 (ble' rfl) (ble' rfl) ?_
      exact pr_ok (by rw [cr_obstacle, if_neg (fun q => q n10), if_neg (fun q => q n23)]) (by rw [ens, enb, enz, cl_of hk (by omega)]) eRS e4
  · have n10 := bI_z.mp c10
    refine aw_aload_n dX10_obstacle_13 rfl ?_
    refine aw_iconst (v := 1) dX10_obstacle_14 (by decide) ?_
    refine ap_callVi kv_X10_43 ko_X10_fail (c_X10_fail hn _) dX10_obstacle_15 e_63 (l_63 hn) rfl rfl rfl rfl (ble' rfl) (by decide) ?_
    refine aw_iret rfl dX10_obstacle_18 (ble' rfl) (ble' rfl) ?_
    exact pr_no (k := 0) (by rw [cr_obstacle, if_pos n10]) (rs_tr eRS rs_1) rfl

def cr_bf (M : Nat → Nat → Int32) (b : Int32) : Nat := if ¬ (0 ≤ b ∧ b ≤ M 64 4 - 1) then 1 else 0
set_option maxRecDepth 100000 in
set_option maxHeartbeats 4000000 in
theorem c_X10_bookingField_0 {G : AG} {M : Nat → Nat → Int32} {n : Nat} (hn : 72 ≤ n) {nb : Nat} (hb : M 64 4 = nI nb) (hbl : nb ≤ 60) (b : Int32) : AMet tX10_bookingField yX10_bookingField [Cond.code yX10_bookingField cX10_bookingField 3 (some .int)] [.ref 63, .int b, .int 0] (wld G M) n (PR (cr_bf M b) (V M 16 b.toNatClampNeg) G M M n) := by
  refine am_of (lo := [_, _, _]) (by decide) rfl (fun q => by cases q) rfl rfl rfl ?_
  refine aw_aload_n dX10_bookingField_0 rfl ?_
  refine aw_iconst (v := 0) dX10_bookingField_1 (by decide) ?_
  refine aw_put fp_X10_36_m dX10_bookingField_2 e_63 (l_63 hn) (ble' rfl) (fun _ => ⟨rfl, rfl⟩) (hwf rfl) ?_
  obtain ⟨M', e64, eRS, e4, eW⟩ : ∃ M', M 64 = M' 64 ∧ RS M M' ∧ M' 63 4 = 0 ∧ wld G (updM M 63 (upd (M 63) 4 0)) = wld G M' := ⟨_, rfl, rs_1, rfl, rfl⟩
  refine aw_heq eW ?_
  rw [show cr_bf M b = cr_bf M' b from by unfold cr_bf; rw [e64], V_eq e64]
  rw [e64] at hb
  clear eW
  refine aw_aload_n dX10_bookingField_5 rfl ?_
  refine aw_iload_n dX10_bookingField_6 rfl ?_
  refine ap_callVi kv_X10_141 ko_X10_isBooking (c_X10_isBooking hn _) dX10_bookingField_7 e_63 (l_63 hn) rfl rfl rfl rfl (ble' rfl) (by decide) ?_
  refine aw_if_eq 22 dX10_bookingField_10 (by decide) (fun c10 => ?_) (fun c10 => ?_)
  · have n10 := bI_z.mp c10
    refine aw_aload_n dX10_bookingField_22 rfl ?_
    refine aw_iconst (v := 1) dX10_bookingField_23 (by decide) ?_
    refine ap_callVi kv_X10_43 ko_X10_fail (c_X10_fail hn _) dX10_bookingField_24 e_63 (l_63 hn) rfl rfl rfl rfl (ble' rfl) (by decide) ?_
    refine aw_iret rfl dX10_bookingField_27 (ble' rfl) (ble' rfl) ?_
    exact pr_no (k := 0) (by rw [cr_bf, if_pos n10]) (rs_tr eRS rs_1) rfl
  · have n10 := bI_nz.mp c10
    obtain ⟨kb, hkb, hkB⟩ := cls_of hb (by omega) n10
    refine aw_aload_n dX10_bookingField_13 rfl ?_
    refine aw_iload_n dX10_bookingField_14 rfl ?_
    refine aw_iload_n dX10_bookingField_15 rfl ?_
    refine ap_callVi kv_X10_102 ko_X10_booking (c_X10_booking_0 hn hkB (by omega)) dX10_bookingField_16 e_63 (l_63 hn) rfl rfl rfl rfl (ble' rfl) (by decide) ?_
    refine aw_goto 27 dX10_bookingField_19 (by decide) ?_
    refine aw_iret rfl dX10_bookingField_27 (ble' rfl) (ble' rfl) ?_
    exact pr_ok (by rw [cr_bf, if_neg (fun q => q n10)]) (by rw [cl_of hkB (by omega)]) eRS e4

set_option maxRecDepth 100000 in
set_option maxHeartbeats 4000000 in
theorem c_X10_bookingField_1 {G : AG} {M : Nat → Nat → Int32} {n : Nat} (hn : 72 ≤ n) {nb : Nat} (hb : M 64 4 = nI nb) (hbl : nb ≤ 60) (b : Int32) : AMet tX10_bookingField yX10_bookingField [Cond.code yX10_bookingField cX10_bookingField 3 (some .int)] [.ref 63, .int b, .int 1] (wld G M) n (PR (cr_bf M b) (V M 17 b.toNatClampNeg) G M M n) := by
  refine am_of (lo := [_, _, _]) (by decide) rfl (fun q => by cases q) rfl rfl rfl ?_
  refine aw_aload_n dX10_bookingField_0 rfl ?_
  refine aw_iconst (v := 0) dX10_bookingField_1 (by decide) ?_
  refine aw_put fp_X10_36_m dX10_bookingField_2 e_63 (l_63 hn) (ble' rfl) (fun _ => ⟨rfl, rfl⟩) (hwf rfl) ?_
  obtain ⟨M', e64, eRS, e4, eW⟩ : ∃ M', M 64 = M' 64 ∧ RS M M' ∧ M' 63 4 = 0 ∧ wld G (updM M 63 (upd (M 63) 4 0)) = wld G M' := ⟨_, rfl, rs_1, rfl, rfl⟩
  refine aw_heq eW ?_
  rw [show cr_bf M b = cr_bf M' b from by unfold cr_bf; rw [e64], V_eq e64]
  rw [e64] at hb
  clear eW
  refine aw_aload_n dX10_bookingField_5 rfl ?_
  refine aw_iload_n dX10_bookingField_6 rfl ?_
  refine ap_callVi kv_X10_141 ko_X10_isBooking (c_X10_isBooking hn _) dX10_bookingField_7 e_63 (l_63 hn) rfl rfl rfl rfl (ble' rfl) (by decide) ?_
  refine aw_if_eq 22 dX10_bookingField_10 (by decide) (fun c10 => ?_) (fun c10 => ?_)
  · have n10 := bI_z.mp c10
    refine aw_aload_n dX10_bookingField_22 rfl ?_
    refine aw_iconst (v := 1) dX10_bookingField_23 (by decide) ?_
    refine ap_callVi kv_X10_43 ko_X10_fail (c_X10_fail hn _) dX10_bookingField_24 e_63 (l_63 hn) rfl rfl rfl rfl (ble' rfl) (by decide) ?_
    refine aw_iret rfl dX10_bookingField_27 (ble' rfl) (ble' rfl) ?_
    exact pr_no (k := 0) (by rw [cr_bf, if_pos n10]) (rs_tr eRS rs_1) rfl
  · have n10 := bI_nz.mp c10
    obtain ⟨kb, hkb, hkB⟩ := cls_of hb (by omega) n10
    refine aw_aload_n dX10_bookingField_13 rfl ?_
    refine aw_iload_n dX10_bookingField_14 rfl ?_
    refine aw_iload_n dX10_bookingField_15 rfl ?_
    refine ap_callVi kv_X10_102 ko_X10_booking (c_X10_booking_1 hn hkB (by omega)) dX10_bookingField_16 e_63 (l_63 hn) rfl rfl rfl rfl (ble' rfl) (by decide) ?_
    refine aw_goto 27 dX10_bookingField_19 (by decide) ?_
    refine aw_iret rfl dX10_bookingField_27 (ble' rfl) (ble' rfl) ?_
    exact pr_ok (by rw [cr_bf, if_neg (fun q => q n10)]) (by rw [cl_of hkB (by omega)]) eRS e4

set_option maxRecDepth 100000 in
set_option maxHeartbeats 4000000 in
theorem c_X10_bookingField_2 {G : AG} {M : Nat → Nat → Int32} {n : Nat} (hn : 72 ≤ n) {nb : Nat} (hb : M 64 4 = nI nb) (hbl : nb ≤ 60) (b : Int32) : AMet tX10_bookingField yX10_bookingField [Cond.code yX10_bookingField cX10_bookingField 3 (some .int)] [.ref 63, .int b, .int 2] (wld G M) n (PR (cr_bf M b) (V M 18 b.toNatClampNeg) G M M n) := by
  refine am_of (lo := [_, _, _]) (by decide) rfl (fun q => by cases q) rfl rfl rfl ?_
  refine aw_aload_n dX10_bookingField_0 rfl ?_
  refine aw_iconst (v := 0) dX10_bookingField_1 (by decide) ?_
  refine aw_put fp_X10_36_m dX10_bookingField_2 e_63 (l_63 hn) (ble' rfl) (fun _ => ⟨rfl, rfl⟩) (hwf rfl) ?_
  obtain ⟨M', e64, eRS, e4, eW⟩ : ∃ M', M 64 = M' 64 ∧ RS M M' ∧ M' 63 4 = 0 ∧ wld G (updM M 63 (upd (M 63) 4 0)) = wld G M' := ⟨_, rfl, rs_1, rfl, rfl⟩
  refine aw_heq eW ?_
  rw [show cr_bf M b = cr_bf M' b from by unfold cr_bf; rw [e64], V_eq e64]
  rw [e64] at hb
  clear eW
  refine aw_aload_n dX10_bookingField_5 rfl ?_
  refine aw_iload_n dX10_bookingField_6 rfl ?_
  refine ap_callVi kv_X10_141 ko_X10_isBooking (c_X10_isBooking hn _) dX10_bookingField_7 e_63 (l_63 hn) rfl rfl rfl rfl (ble' rfl) (by decide) ?_
  refine aw_if_eq 22 dX10_bookingField_10 (by decide) (fun c10 => ?_) (fun c10 => ?_)
  · have n10 := bI_z.mp c10
    refine aw_aload_n dX10_bookingField_22 rfl ?_
    refine aw_iconst (v := 1) dX10_bookingField_23 (by decide) ?_
    refine ap_callVi kv_X10_43 ko_X10_fail (c_X10_fail hn _) dX10_bookingField_24 e_63 (l_63 hn) rfl rfl rfl rfl (ble' rfl) (by decide) ?_
    refine aw_iret rfl dX10_bookingField_27 (ble' rfl) (ble' rfl) ?_
    exact pr_no (k := 0) (by rw [cr_bf, if_pos n10]) (rs_tr eRS rs_1) rfl
  · have n10 := bI_nz.mp c10
    obtain ⟨kb, hkb, hkB⟩ := cls_of hb (by omega) n10
    refine aw_aload_n dX10_bookingField_13 rfl ?_
    refine aw_iload_n dX10_bookingField_14 rfl ?_
    refine aw_iload_n dX10_bookingField_15 rfl ?_
    refine ap_callVi kv_X10_102 ko_X10_booking (c_X10_booking_2 hn hkB (by omega)) dX10_bookingField_16 e_63 (l_63 hn) rfl rfl rfl rfl (ble' rfl) (by decide) ?_
    refine aw_goto 27 dX10_bookingField_19 (by decide) ?_
    refine aw_iret rfl dX10_bookingField_27 (ble' rfl) (ble' rfl) ?_
    exact pr_ok (by rw [cr_bf, if_neg (fun q => q n10)]) (by rw [cl_of hkB (by omega)]) eRS e4

set_option maxRecDepth 100000 in
set_option maxHeartbeats 4000000 in
theorem c_X10_bookingField_3 {G : AG} {M : Nat → Nat → Int32} {n : Nat} (hn : 72 ≤ n) {nb : Nat} (hb : M 64 4 = nI nb) (hbl : nb ≤ 60) (b : Int32) : AMet tX10_bookingField yX10_bookingField [Cond.code yX10_bookingField cX10_bookingField 3 (some .int)] [.ref 63, .int b, .int 3] (wld G M) n (PR (cr_bf M b) (V M 19 b.toNatClampNeg) G M M n) := by
  refine am_of (lo := [_, _, _]) (by decide) rfl (fun q => by cases q) rfl rfl rfl ?_
  refine aw_aload_n dX10_bookingField_0 rfl ?_
  refine aw_iconst (v := 0) dX10_bookingField_1 (by decide) ?_
  refine aw_put fp_X10_36_m dX10_bookingField_2 e_63 (l_63 hn) (ble' rfl) (fun _ => ⟨rfl, rfl⟩) (hwf rfl) ?_
  obtain ⟨M', e64, eRS, e4, eW⟩ : ∃ M', M 64 = M' 64 ∧ RS M M' ∧ M' 63 4 = 0 ∧ wld G (updM M 63 (upd (M 63) 4 0)) = wld G M' := ⟨_, rfl, rs_1, rfl, rfl⟩
  refine aw_heq eW ?_
  rw [show cr_bf M b = cr_bf M' b from by unfold cr_bf; rw [e64], V_eq e64]
  rw [e64] at hb
  clear eW
  refine aw_aload_n dX10_bookingField_5 rfl ?_
  refine aw_iload_n dX10_bookingField_6 rfl ?_
  refine ap_callVi kv_X10_141 ko_X10_isBooking (c_X10_isBooking hn _) dX10_bookingField_7 e_63 (l_63 hn) rfl rfl rfl rfl (ble' rfl) (by decide) ?_
  refine aw_if_eq 22 dX10_bookingField_10 (by decide) (fun c10 => ?_) (fun c10 => ?_)
  · have n10 := bI_z.mp c10
    refine aw_aload_n dX10_bookingField_22 rfl ?_
    refine aw_iconst (v := 1) dX10_bookingField_23 (by decide) ?_
    refine ap_callVi kv_X10_43 ko_X10_fail (c_X10_fail hn _) dX10_bookingField_24 e_63 (l_63 hn) rfl rfl rfl rfl (ble' rfl) (by decide) ?_
    refine aw_iret rfl dX10_bookingField_27 (ble' rfl) (ble' rfl) ?_
    exact pr_no (k := 0) (by rw [cr_bf, if_pos n10]) (rs_tr eRS rs_1) rfl
  · have n10 := bI_nz.mp c10
    obtain ⟨kb, hkb, hkB⟩ := cls_of hb (by omega) n10
    refine aw_aload_n dX10_bookingField_13 rfl ?_
    refine aw_iload_n dX10_bookingField_14 rfl ?_
    refine aw_iload_n dX10_bookingField_15 rfl ?_
    refine ap_callVi kv_X10_102 ko_X10_booking (c_X10_booking_3 hn hkB (by omega)) dX10_bookingField_16 e_63 (l_63 hn) rfl rfl rfl rfl (ble' rfl) (by decide) ?_
    refine aw_goto 27 dX10_bookingField_19 (by decide) ?_
    refine aw_iret rfl dX10_bookingField_27 (ble' rfl) (ble' rfl) ?_
    exact pr_ok (by rw [cr_bf, if_neg (fun q => q n10)]) (by rw [cl_of hkB (by omega)]) eRS e4

set_option maxRecDepth 100000 in
set_option maxHeartbeats 4000000 in
theorem c_X10_bookingField_4 {G : AG} {M : Nat → Nat → Int32} {n : Nat} (hn : 72 ≤ n) {nb : Nat} (hb : M 64 4 = nI nb) (hbl : nb ≤ 60) (b : Int32) : AMet tX10_bookingField yX10_bookingField [Cond.code yX10_bookingField cX10_bookingField 3 (some .int)] [.ref 63, .int b, .int 4] (wld G M) n (PR (cr_bf M b) (V M 20 b.toNatClampNeg) G M M n) := by
  refine am_of (lo := [_, _, _]) (by decide) rfl (fun q => by cases q) rfl rfl rfl ?_
  refine aw_aload_n dX10_bookingField_0 rfl ?_
  refine aw_iconst (v := 0) dX10_bookingField_1 (by decide) ?_
  refine aw_put fp_X10_36_m dX10_bookingField_2 e_63 (l_63 hn) (ble' rfl) (fun _ => ⟨rfl, rfl⟩) (hwf rfl) ?_
  obtain ⟨M', e64, eRS, e4, eW⟩ : ∃ M', M 64 = M' 64 ∧ RS M M' ∧ M' 63 4 = 0 ∧ wld G (updM M 63 (upd (M 63) 4 0)) = wld G M' := ⟨_, rfl, rs_1, rfl, rfl⟩
  refine aw_heq eW ?_
  rw [show cr_bf M b = cr_bf M' b from by unfold cr_bf; rw [e64], V_eq e64]
  rw [e64] at hb
  clear eW
  refine aw_aload_n dX10_bookingField_5 rfl ?_
  refine aw_iload_n dX10_bookingField_6 rfl ?_
  refine ap_callVi kv_X10_141 ko_X10_isBooking (c_X10_isBooking hn _) dX10_bookingField_7 e_63 (l_63 hn) rfl rfl rfl rfl (ble' rfl) (by decide) ?_
  refine aw_if_eq 22 dX10_bookingField_10 (by decide) (fun c10 => ?_) (fun c10 => ?_)
  · have n10 := bI_z.mp c10
    refine aw_aload_n dX10_bookingField_22 rfl ?_
    refine aw_iconst (v := 1) dX10_bookingField_23 (by decide) ?_
    refine ap_callVi kv_X10_43 ko_X10_fail (c_X10_fail hn _) dX10_bookingField_24 e_63 (l_63 hn) rfl rfl rfl rfl (ble' rfl) (by decide) ?_
    refine aw_iret rfl dX10_bookingField_27 (ble' rfl) (ble' rfl) ?_
    exact pr_no (k := 0) (by rw [cr_bf, if_pos n10]) (rs_tr eRS rs_1) rfl
  · have n10 := bI_nz.mp c10
    obtain ⟨kb, hkb, hkB⟩ := cls_of hb (by omega) n10
    refine aw_aload_n dX10_bookingField_13 rfl ?_
    refine aw_iload_n dX10_bookingField_14 rfl ?_
    refine aw_iload_n dX10_bookingField_15 rfl ?_
    refine ap_callVi kv_X10_102 ko_X10_booking (c_X10_booking_4 hn hkB (by omega)) dX10_bookingField_16 e_63 (l_63 hn) rfl rfl rfl rfl (ble' rfl) (by decide) ?_
    refine aw_goto 27 dX10_bookingField_19 (by decide) ?_
    refine aw_iret rfl dX10_bookingField_27 (ble' rfl) (ble' rfl) ?_
    exact pr_ok (by rw [cr_bf, if_neg (fun q => q n10)]) (by rw [cl_of hkB (by omega)]) eRS e4

set_option maxRecDepth 100000 in
set_option maxHeartbeats 4000000 in
theorem c_X10_bookingField_5 {G : AG} {M : Nat → Nat → Int32} {n : Nat} (hn : 72 ≤ n) {nb : Nat} (hb : M 64 4 = nI nb) (hbl : nb ≤ 60) (b : Int32) : AMet tX10_bookingField yX10_bookingField [Cond.code yX10_bookingField cX10_bookingField 3 (some .int)] [.ref 63, .int b, .int 5] (wld G M) n (PR (cr_bf M b) (V M 21 b.toNatClampNeg) G M M n) := by
  refine am_of (lo := [_, _, _]) (by decide) rfl (fun q => by cases q) rfl rfl rfl ?_
  refine aw_aload_n dX10_bookingField_0 rfl ?_
  refine aw_iconst (v := 0) dX10_bookingField_1 (by decide) ?_
  refine aw_put fp_X10_36_m dX10_bookingField_2 e_63 (l_63 hn) (ble' rfl) (fun _ => ⟨rfl, rfl⟩) (hwf rfl) ?_
  obtain ⟨M', e64, eRS, e4, eW⟩ : ∃ M', M 64 = M' 64 ∧ RS M M' ∧ M' 63 4 = 0 ∧ wld G (updM M 63 (upd (M 63) 4 0)) = wld G M' := ⟨_, rfl, rs_1, rfl, rfl⟩
  refine aw_heq eW ?_
  rw [show cr_bf M b = cr_bf M' b from by unfold cr_bf; rw [e64], V_eq e64]
  rw [e64] at hb
  clear eW
  refine aw_aload_n dX10_bookingField_5 rfl ?_
  refine aw_iload_n dX10_bookingField_6 rfl ?_
  refine ap_callVi kv_X10_141 ko_X10_isBooking (c_X10_isBooking hn _) dX10_bookingField_7 e_63 (l_63 hn) rfl rfl rfl rfl (ble' rfl) (by decide) ?_
  refine aw_if_eq 22 dX10_bookingField_10 (by decide) (fun c10 => ?_) (fun c10 => ?_)
  · have n10 := bI_z.mp c10
    refine aw_aload_n dX10_bookingField_22 rfl ?_
    refine aw_iconst (v := 1) dX10_bookingField_23 (by decide) ?_
    refine ap_callVi kv_X10_43 ko_X10_fail (c_X10_fail hn _) dX10_bookingField_24 e_63 (l_63 hn) rfl rfl rfl rfl (ble' rfl) (by decide) ?_
    refine aw_iret rfl dX10_bookingField_27 (ble' rfl) (ble' rfl) ?_
    exact pr_no (k := 0) (by rw [cr_bf, if_pos n10]) (rs_tr eRS rs_1) rfl
  · have n10 := bI_nz.mp c10
    obtain ⟨kb, hkb, hkB⟩ := cls_of hb (by omega) n10
    refine aw_aload_n dX10_bookingField_13 rfl ?_
    refine aw_iload_n dX10_bookingField_14 rfl ?_
    refine aw_iload_n dX10_bookingField_15 rfl ?_
    refine ap_callVi kv_X10_102 ko_X10_booking (c_X10_booking_5 hn hkB (by omega)) dX10_bookingField_16 e_63 (l_63 hn) rfl rfl rfl rfl (ble' rfl) (by decide) ?_
    refine aw_goto 27 dX10_bookingField_19 (by decide) ?_
    refine aw_iret rfl dX10_bookingField_27 (ble' rfl) (ble' rfl) ?_
    exact pr_ok (by rw [cr_bf, if_neg (fun q => q n10)]) (by rw [cl_of hkB (by omega)]) eRS e4

section Rcall
variable {T Tc : ATy} {Q : AQ} {CX : AC} {pc : Nat} {lo : List (Option Value)} {st : List Value} {h : Nat → AE} {n ce sl : Nat} {y : MethodName} {index : Nat} {sk as : List Value} {i ci na : Nat} {fs : List Value} {r : vw_C} {v : Int32} {cd : Nat} {G : AG} {M M1 : Nat → Nat → Int32}
theorem pr_nx : ∀ E h1 n1, ¬ PR cd v G M M1 n (.inr E) h1 n1 := fun _ _ _ q => by cases q.1
theorem pr_na : ∀ o1 h1 n1, PR cd v G M M1 n o1 h1 n1 → n1 = n := fun _ _ _ q => q.2.1
/-- a call of the reference by itself -/
theorem ap_callR (hL : KV T.1 index y) (hK : KO y Tc.2.1 Tc.2.2.1 Tc.2.2.2.1 na) (hM : AMet Tc y [Cond.code y Tc.2.1 Tc.2.2.1 Tc.2.2.2.1] (.ref i :: as) h n (PR cd v G M M1 n)) (hd : decode T.2.1 pc = .ok (.invokevirtual index, 3)) (he : h i = .inr (ci, fs)) (hi : i < n) (hcl : vwCl[ci]? = some r) (hr1 : r.1 = y.cls) (hst : sk = as.reverse ++ .ref i :: st) (hna9 : as.length = na) (hw : (st.map fun v => v.category).sum ≤ 8) (hR : RmOk T Tc ce sl)
    (kk : ∀ M2, RS (if cd = 0 then M1 else M) M2 → M2 63 4 = nI cd → AW T Q CX (pc + 3) lo (.int (if cd = 0 then v else 0) :: st) (wld G M2) n (ce + Tc.2.2.2.2.1.cells) (sl + Tc.2.2.2.2.1.slots)) : AW T Q CX pc lo sk h n ce sl :=
  aw_callV hL hK hM hd he hi hcl hr1 hst hna9 hw hR pr_nx pr_na (fun v' h' q => by
    obtain ⟨q1, -, M2, q3, q4, q5⟩ := q
    cases q1; subst q3; exact kk M2 q4 q5)
end Rcall
set_option maxRecDepth 100000 in
set_option maxHeartbeats 4000000 in
theorem c_X10_bookingState {G : AG} {M : Nat → Nat → Int32} {n : Nat} (hn : 72 ≤ n) {nb : Nat} (hb : M 64 4 = nI nb) (hbl : nb ≤ 60) (b : Int32) : AMet tX10_bookingState yX10_bookingState [Cond.code yX10_bookingState cX10_bookingState 2 (some .int)] [.ref 63, .int b] (wld G M) n (PR (cr_bf M b) (V M 20 b.toNatClampNeg) G M M n) := by
  refine am_of (lo := [_, _]) (by decide) rfl (fun q => by cases q) rfl rfl rfl ?_
  refine aw_aload_n dX10_bookingState_0 rfl ?_
  refine aw_iload_n dX10_bookingState_1 rfl ?_
  refine aw_iconst (v := 4) dX10_bookingState_2 (by decide) ?_
  refine ap_callR kv_X10_144 ko_X10_bookingField (c_X10_bookingField_4 hn hb hbl b) dX10_bookingState_3 e_63 (l_63 hn) rfl rfl rfl rfl (ble' rfl) (by decide) (fun M2 q1 q2 => ?_)
  refine aw_iret rfl dX10_bookingState_6 (ble' rfl) (ble' rfl) ?_
  exact ⟨rfl, rfl, M2, rfl, q1, q2⟩

set_option maxRecDepth 100000 in
set_option maxHeartbeats 4000000 in
theorem c_X10_bookingClass {G : AG} {M : Nat → Nat → Int32} {n : Nat} (hn : 72 ≤ n) {nb : Nat} (hb : M 64 4 = nI nb) (hbl : nb ≤ 60) (b : Int32) : AMet tX10_bookingClass yX10_bookingClass [Cond.code yX10_bookingClass cX10_bookingClass 2 (some .int)] [.ref 63, .int b] (wld G M) n (PR (cr_bf M b) (V M 16 b.toNatClampNeg) G M M n) := by
  refine am_of (lo := [_, _]) (by decide) rfl (fun q => by cases q) rfl rfl rfl ?_
  refine aw_aload_n dX10_bookingClass_0 rfl ?_
  refine aw_iload_n dX10_bookingClass_1 rfl ?_
  refine aw_iconst (v := 0) dX10_bookingClass_2 (by decide) ?_
  refine ap_callR kv_X10_144 ko_X10_bookingField (c_X10_bookingField_0 hn hb hbl b) dX10_bookingClass_3 e_63 (l_63 hn) rfl rfl rfl rfl (ble' rfl) (by decide) (fun M2 q1 q2 => ?_)
  refine aw_iret rfl dX10_bookingClass_6 (ble' rfl) (ble' rfl) ?_
  exact ⟨rfl, rfl, M2, rfl, q1, q2⟩

set_option maxRecDepth 100000 in
set_option maxHeartbeats 4000000 in
theorem c_X10_arrival {G : AG} {M : Nat → Nat → Int32} {n : Nat} (hn : 72 ≤ n) {nb : Nat} (hb : M 64 4 = nI nb) (hbl : nb ≤ 60) (b : Int32) : AMet tX10_arrival yX10_arrival [Cond.code yX10_arrival cX10_arrival 2 (some .int)] [.ref 63, .int b] (wld G M) n (PR (cr_bf M b) (V M 17 b.toNatClampNeg) G M M n) := by
  refine am_of (lo := [_, _]) (by decide) rfl (fun q => by cases q) rfl rfl rfl ?_
  refine aw_aload_n dX10_arrival_0 rfl ?_
  refine aw_iload_n dX10_arrival_1 rfl ?_
  refine aw_iconst (v := 1) dX10_arrival_2 (by decide) ?_
  refine ap_callR kv_X10_144 ko_X10_bookingField (c_X10_bookingField_1 hn hb hbl b) dX10_arrival_3 e_63 (l_63 hn) rfl rfl rfl rfl (ble' rfl) (by decide) (fun M2 q1 q2 => ?_)
  refine aw_iret rfl dX10_arrival_6 (ble' rfl) (ble' rfl) ?_
  exact ⟨rfl, rfl, M2, rfl, q1, q2⟩

set_option maxRecDepth 100000 in
set_option maxHeartbeats 4000000 in
theorem c_X10_departure {G : AG} {M : Nat → Nat → Int32} {n : Nat} (hn : 72 ≤ n) {nb : Nat} (hb : M 64 4 = nI nb) (hbl : nb ≤ 60) (b : Int32) : AMet tX10_departure yX10_departure [Cond.code yX10_departure cX10_departure 2 (some .int)] [.ref 63, .int b] (wld G M) n (PR (cr_bf M b) (V M 18 b.toNatClampNeg) G M M n) := by
  refine am_of (lo := [_, _]) (by decide) rfl (fun q => by cases q) rfl rfl rfl ?_
  refine aw_aload_n dX10_departure_0 rfl ?_
  refine aw_iload_n dX10_departure_1 rfl ?_
  refine aw_iconst (v := 2) dX10_departure_2 (by decide) ?_
  refine ap_callR kv_X10_144 ko_X10_bookingField (c_X10_bookingField_2 hn hb hbl b) dX10_departure_3 e_63 (l_63 hn) rfl rfl rfl rfl (ble' rfl) (by decide) (fun M2 q1 q2 => ?_)
  refine aw_iret rfl dX10_departure_6 (ble' rfl) (ble' rfl) ?_
  exact ⟨rfl, rfl, M2, rfl, q1, q2⟩

set_option maxRecDepth 100000 in
set_option maxHeartbeats 4000000 in
theorem c_X10_cost {G : AG} {M : Nat → Nat → Int32} {n : Nat} (hn : 72 ≤ n) {nb : Nat} (hb : M 64 4 = nI nb) (hbl : nb ≤ 60) (b : Int32) : AMet tX10_cost yX10_cost [Cond.code yX10_cost cX10_cost 2 (some .int)] [.ref 63, .int b] (wld G M) n (PR (cr_bf M b) (V M 19 b.toNatClampNeg) G M M n) := by
  refine am_of (lo := [_, _]) (by decide) rfl (fun q => by cases q) rfl rfl rfl ?_
  refine aw_aload_n dX10_cost_0 rfl ?_
  refine aw_iload_n dX10_cost_1 rfl ?_
  refine aw_iconst (v := 3) dX10_cost_2 (by decide) ?_
  refine ap_callR kv_X10_144 ko_X10_bookingField (c_X10_bookingField_3 hn hb hbl b) dX10_cost_3 e_63 (l_63 hn) rfl rfl rfl rfl (ble' rfl) (by decide) (fun M2 q1 q2 => ?_)
  refine aw_iret rfl dX10_cost_6 (ble' rfl) (ble' rfl) ?_
  exact ⟨rfl, rfl, M2, rfl, q1, q2⟩

set_option maxRecDepth 100000 in
set_option maxHeartbeats 4000000 in
theorem c_X10_siteOf {G : AG} {M : Nat → Nat → Int32} {n : Nat} (hn : 72 ≤ n) {nb : Nat} (hb : M 64 4 = nI nb) (hbl : nb ≤ 60) (b : Int32) : AMet tX10_siteOf yX10_siteOf [Cond.code yX10_siteOf cX10_siteOf 2 (some .int)] [.ref 63, .int b] (wld G M) n (PR (cr_bf M b) (V M 21 b.toNatClampNeg) G M M n) := by
  refine am_of (lo := [_, _]) (by decide) rfl (fun q => by cases q) rfl rfl rfl ?_
  refine aw_aload_n dX10_siteOf_0 rfl ?_
  refine aw_iload_n dX10_siteOf_1 rfl ?_
  refine aw_iconst (v := 5) dX10_siteOf_2 (by decide) ?_
  refine ap_callR kv_X10_144 ko_X10_bookingField (c_X10_bookingField_5 hn hb hbl b) dX10_siteOf_3 e_63 (l_63 hn) rfl rfl rfl rfl (ble' rfl) (by decide) (fun M2 q1 q2 => ?_)
  refine aw_iret rfl dX10_siteOf_6 (ble' rfl) (ble' rfl) ?_
  exact ⟨rfl, rfl, M2, rfl, q1, q2⟩
