section Rel2
variable {G : AG} {A B : Nat → Nat → Int32} {n nc ns nz nb nr t : Nat}
theorem s_st (h : Same A B nc ns nz nb nr t) (hi : Inv A nc ns nb nr t) : ∀ k, k < nb → V B 20 k = 1 → ∃ m : Nat, m < 16 ∧ V B 21 k = nI m := by
  intro k hk q
  have hs := h.1.2.2.2.1
  have hr := h.2.2.2.2.2.1
  obtain ⟨c, a, d, -, -, -, -, -, -, -, hst⟩ := hi.2.1 k hk
  obtain ⟨-, -, s, g3, g4, -⟩ := hst ((hr.2.2.2.2.1 k hk).trans q)
  exact ⟨s, by omega, (hr.2.2.2.2.2 k hk).symm.trans g4⟩
theorem plans (h : Same A B nc ns nz nb nr t) (hi : Inv A nc ns nb nr t) (p : Int32) : ∃ S : Int32 → PlS, (∀ c, plA B ns nb nz c p 61 = some (S c)) ∧ ∀ c, PRl nb (planM A ns nb nz c p) (S c) :=
  ⟨fun c => Classical.choose (u_plan h hi c p), fun c => (Classical.choose_spec (u_plan h hi c p)).1, fun c => (Classical.choose_spec (u_plan h hi c p)).2⟩
theorem q_planSite (h : Same A B nc ns nz nb nr t) {S : Int32 → PlS} {p : Int32} (hS : ∀ c, PRl nb (planM A ns nb nz c p) (S c)) (x : Int32) : cd_planSite A x p = cr_planSite B x p ∧ (cr_planSite B x p = 0 → (planM A (nsM A) (nbM A) (nzM A) (A 16 x.toNatClampNeg) p).1 x.toNatClampNeg = (S (V B 16 x.toNatClampNeg)).1 x.toNatClampNeg) := by
  have hr := h.2.2.2.2.2.1
  refine ⟨ifc (k_bkg h x) rfl (fun z => ifc (k_rg 0 1 p) rfl (fun _ => ?_)), fun z => ?_⟩
  · obtain ⟨k, hk, -, e⟩ := o_bkg h (Classical.not_not.mp z)
    rw [e, hr.2.2.2.2.1 k hk]
  · obtain ⟨k, hk, -, e⟩ := o_bkg h (Classical.not_not.mp (if0 (by decide) z).1)
    rw [e, (s_ns h).2, (s_nb h).2, (s_nz2 h).2, ← hr.1 k hk]
    exact (hS _).1 k hk
theorem q_gapNights (h : Same A B nc ns nz nb nr t) {S : Int32 → PlS} {p : Int32} (hS : ∀ c, PRl nb (planM A ns nb nz c p) (S c)) (c : Int32) : cd_gapNights A c p = wpR B c p ∧ (planM A (nsM A) (nbM A) (nzM A) c p).2.2.1 = (S c).2.2.1 := by
  refine ⟨ifc (k_cls h c) rfl (fun _ => ifc (k_rg 0 1 p) rfl (fun _ => rfl)), ?_⟩
  rw [(s_ns h).2, (s_nb h).2, (s_nz2 h).2]
  exact (hS c).2.2.1
theorem q_orphanNights (h : Same A B nc ns nz nb nr t) {S : Int32 → PlS} {p : Int32} (hS : ∀ c, PRl nb (planM A ns nb nz c p) (S c)) (c : Int32) : cd_orphanNights A c p = wpR B c p ∧ (planM A (nsM A) (nbM A) (nzM A) c p).2.2.2 = (S c).2.2.2 := by
  refine ⟨ifc (k_cls h c) rfl (fun _ => ifc (k_rg 0 1 p) rfl (fun _ => rfl)), ?_⟩
  rw [(s_ns h).2, (s_nb h).2, (s_nz2 h).2]
  exact (hS c).2.2.2
theorem u_truncateText (h : Rel G A B n) (l : Int32) : cd_truncateText A l = cr_truncateText B l ∧ (cr_truncateText B l = 0 → Rel G (updM A 0 (upd (A 0) 7 l)) (txM B l) n) := by
  obtain ⟨L, t1, t2, t3, t4⟩ := h.2.1
  refine ⟨ifc (by rw [t1, t2]; exact k_rg _ _ _) rfl (fun _ => rfl), fun z => ?_⟩
  have z1 := Classical.not_not.mp (if0 (by decide) z).1
  rw [t2] at z1
  obtain ⟨j, hj, ej⟩ := day_of rfl (by omega) z1
  refine ⟨st_cg h.1 (fun i h1 h2 => updM_n (by omega)) rfl, ⟨j, ?_, ?_, by omega, t4⟩, h.2.2.1, sv_cg h.2.2.2 rfl (fun i hi => updM_n (by omega)) rfl rfl⟩
  · show upd (A 0) 7 l 7 = nI j
    rw [upd_s]; exact ej
  · show upd (B 63) 10 l 10 = nI j
    rw [upd_s]; exact ej
theorem byt_z (z : Int32) : byt (vp_nar .byte z.toInt8.toInt32) (z &&& 255) := by
  have e1 : vp_nar .byte z.toInt8.toInt32 = z.toInt8.toInt32 := by
    show z.toInt8.toInt32.toInt8.toInt32 = z.toInt8.toInt32
    rw [Int8.toInt8_toInt32]
  rw [e1]
  have hb : z.toBitVec.toNat % 256 < 256 := Nat.mod_lt _ (by decide)
  have ey : z &&& 255 = nI (z.toBitVec.toNat % 256) := by
    apply Int32.toBitVec_inj.mp
    apply BitVec.eq_of_toNat_eq
    show (z.toBitVec &&& (255 : Int32).toBitVec).toNat = (BitVec.ofNat 32 (z.toBitVec.toNat % 256)).toNat
    rw [BitVec.toNat_and, BitVec.toNat_ofNat, show (255 : Int32).toBitVec.toNat = 2 ^ 8 - 1 by decide, Nat.and_two_pow_sub_one_eq_mod]
    exact (Nat.mod_eq_of_lt (by omega)).symm
  have ex : (z.toInt8.toInt32).toInt = (z.toBitVec.toNat : Int).bmod 256 := by
    rw [Int8.toInt_toInt32, Int32.toInt_toInt8]
    rw [show z.toInt = (z.toBitVec.toNat : Int).bmod (2 ^ 32) from BitVec.toInt_eq_toNat_bmod _]
    exact Int.bmod_bmod_of_dvd (by decide)
  rw [ey]
  by_cases h8 : z.toBitVec.toNat % 256 < 128
  · refine Or.inl ⟨z.toBitVec.toNat % 256, h8, ?_, rfl⟩
    apply Int32.toInt_inj.mp
    rw [ex, nI_toInt (by omega), Int.bmod_def]
    split <;> omega
  · refine Or.inr ⟨?_, z.toBitVec.toNat % 256, by omega, hb, rfl⟩
    rw [Int32.lt_iff_toInt_lt, ex, show (0 : Int32).toInt = 0 by decide, Int.bmod_def]
    split <;> omega
theorem byt_upd {f g : Nat → Int32} (h : ∀ k, k < 500 → byt (f k) (g k)) {j : Nat} {x y : Int32} (hb : byt x y) : ∀ k, k < 500 → byt (upd f j x k) (upd g j y k) := by
  intro k hk
  by_cases e : k = j
  · rw [e, upd_s, upd_s]; exact hb
  · rw [upd_n e, upd_n e]; exact h k hk
theorem u_appendText (h : Rel G A B n) (f : Int32) : ∃ k : Nat, A 0 7 = nI k ∧ B 63 10 = nI k ∧ k ≤ 500 ∧ cd_appendText A f = cr_appendText B ∧ (cr_appendText B = 0 → Rel G (apM A k f) (atM B k f) n) := by
  obtain ⟨k, t1, t2, t3, t4⟩ := h.2.1
  refine ⟨k, t1, t2, t3, ifc ?_ rfl (fun _ => rfl), fun z => ?_⟩
  · rw [t1, t2, show nI k + 4 = nI (k + 4) from nI_add k 4, show (496 : Int32) < nI k ↔ 496 < k from lt_nI (a := 496) (by decide) (by omega), show nI (k + 4) ≤ 500 ↔ k + 4 ≤ 500 from le_nI (b := 500) (by omega) (by decide)]
    omega
  · have z1 := Classical.not_not.mp (if0 (by decide) z).1
    rw [t2, show nI k + 4 = nI (k + 4) from nI_add k 4] at z1
    have z2 := (le_nI (b := 500) (by omega) (by decide)).mp z1
    refine ⟨st_cg h.1 (fun i h1 h2 => ?_) rfl, ⟨k + 4, ?_, ?_, z2, ?_⟩, h.2.2.1, sv_cg h.2.2.2 rfl (fun i hi => ?_) rfl rfl⟩
    · unfold apM; rw [updM_n (by omega), updM_n (by omega)]
    · show upd (A 0) 7 (nI (k + 4)) 7 = _
      exact upd_s
    · show upd (B 63) 10 (nI (k + 4)) 10 = _
      exact upd_s
    · exact byt_upd (byt_upd (byt_upd (byt_upd t4 (byt_z _)) (byt_z _)) (byt_z _)) (byt_z _)
    · unfold apM; rw [updM_n (by omega), updM_n (by omega)]
end Rel2
