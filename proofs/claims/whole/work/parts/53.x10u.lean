/-- a booking placed at a site -/
def plcR (M : Nat → Nat → Int32) (nz : Nat) (S : PlS) (k : Nat) (s : Int32) : PlS := (upd S.1 k s, upd S.2.1 s.toNatClampNeg (V M 18 k), (if S.2.1 s.toNatClampNeg = -1 then S.2.2.1 else S.2.2.1 + (V M 17 k - S.2.1 s.toNatClampNeg)), (if S.2.1 s.toNatClampNeg = -1 then S.2.2.2 else S.2.2.2 + (if V M 17 k - S.2.1 s.toNatClampNeg < mnV M nz (V M 16 k) (S.2.1 s.toNatClampNeg) then V M 17 k - S.2.1 s.toNatClampNeg else 0)))
/-- those that stay placed -/
def psR (M : Nat → Nat → Int32) (nz : Nat) (c : Int32) (S : PlS) : Nat → PlS
  | 0 => S
  | k + 1 => if V M 20 k = 1 ∧ V M 16 k = c then plcR M nz (upd (psR M nz c S k).1 k (-1), (psR M nz c S k).2) k (V M 21 k) else (upd (psR M nz c S k).1 k (-1), (psR M nz c S k).2)
theorem psR_t {M : Nat → Nat → Int32} {nz : Nat} {c : Int32} {S : PlS} {k : Nat} (h : V M 20 k = 1 ∧ V M 16 k = c) : psR M nz c S (k + 1) = plcR M nz (upd (psR M nz c S k).1 k (-1), (psR M nz c S k).2) k (V M 21 k) := by rw [psR, if_pos h]
theorem psR_f {M : Nat → Nat → Int32} {nz : Nat} {c : Int32} {S : PlS} {k : Nat} (h : ¬ (V M 20 k = 1 ∧ V M 16 k = c)) : psR M nz c S (k + 1) = (upd (psR M nz c S k).1 k (-1), (psR M nz c S k).2) := by rw [psR, if_neg h]
def nxR (M : Nat → Nat → Int32) (nb : Nat) (c : Int32) (S : PlS) : Int32 := bestN (nxB (V M 16) (V M 20) S.1 c) (fun k b => decide (V M 17 k < V M 17 b)) nb
def fsR (M : Nat → Nat → Int32) (ns : Nat) (pol : Int32) (S : PlS) (k : Nat) : Int32 := bestN (chB (V M 7) (V M 8) S.2.1 (V M 16 k) (V M 17 k)) (fun k b => decide (pol = 1 ∧ S.2.1 b < S.2.1 k)) ns
def plR (M : Nat → Nat → Int32) (ns nb nz : Nat) (c pol : Int32) : Nat → PlS → Option PlS
  | 0, _ => none
  | f + 1, S => if nxR M nb c S = -1 then some S else if fsR M ns pol S (nxR M nb c S).toNatClampNeg = -1 then none else plR M ns nb nz c pol f (plcR M nz S (nxR M nb c S).toNatClampNeg (fsR M ns pol S (nxR M nb c S).toNatClampNeg))
def plA (M : Nat → Nat → Int32) (ns nb nz : Nat) (c pol : Int32) (f : Nat) : Option PlS := plR M ns nb nz c pol f (psR M nz c (M 68, mapK (fun _ => -1) (M 69) 16, 0, 0) nb)
theorem plc_eq {A B : Nat → Nat → Int32} (h : A 64 = B 64) : plcR A = plcR B := by funext a b c d; unfold plcR; rw [V_eq h, mnV_eq h]
theorem ps_eq {A B : Nat → Nat → Int32} (h : A 64 = B 64) {nz : Nat} {c : Int32} {S : PlS} : ∀ k, psR A nz c S k = psR B nz c S k
  | 0 => rfl
  | k + 1 => by unfold psR; rw [ps_eq h k, V_eq h, plc_eq h]
theorem nx_eq {A B : Nat → Nat → Int32} (h : A 64 = B 64) : nxR A = nxR B := by funext a b c; unfold nxR; rw [V_eq h]
theorem fs_eq {A B : Nat → Nat → Int32} (h : A 64 = B 64) : fsR A = fsR B := by funext a b c d; unfold fsR; rw [V_eq h]
theorem pl_eq {A B : Nat → Nat → Int32} (h : A 64 = B 64) {ns nb nz : Nat} {c pol : Int32} : ∀ f S, plR A ns nb nz c pol f S = plR B ns nb nz c pol f S
  | 0, _ => rfl
  | f + 1, S => by unfold plR; rw [nx_eq h, fs_eq h, plc_eq h]; simp only [pl_eq h f]
theorem plA_eq {A B : Nat → Nat → Int32} (h : A 64 = B 64) (h8 : A 68 = B 68) (h9 : A 69 = B 69) : plA A = plA B := by funext a b c d e f; unfold plA; rw [pl_eq h, ps_eq h, h8, h9]
set_option maxRecDepth 100000 in
set_option maxHeartbeats 4000000 in
theorem lp_X10_plan1 {G : AG} {M : Nat → Nat → Int32} {n : Nat} (hn : 72 ≤ n) {pl le : Nat → Int32} {c pol : Int32} {Po : APost} (kk : AW tX10_plan (AQm tX10_plan Po) C0 31 [some (.ref 63), some (.int c), some (.int pol), none] [] (wld G (rpM M pl (mapK (fun _ => -1) le 16) 0 0)) n 0 0) : ∀ (j k : Nat) (x3 : Int32), 16 - k < j → k ≤ 16 → x3 = nI k →  AW tX10_plan (AQm tX10_plan (Po)) C0 12 [some (.ref 63), some (.int c), some (.int pol), some (.int x3)] [] (wld G (rpM M pl (mapK (fun _ => -1) le k) 0 0)) n 0 0 := by
  intro j
  induction j with
  | zero => intro k x3 h0; omega
  | succ j ih =>
    intro k x3 h0 hk h3
    refine aw_iload_n dX10_plan_12 rfl ?_
    refine aw_bipush (v := 16) dX10_plan_13 (by decide) ?_
    refine aw_icmp_ge 31 dX10_plan_15 (by decide) (fun c15 => ?_) (fun c15 => ?_)
    · have n15 := Int32.not_lt.mpr c15
      have hke : k = 16 := Nat.le_antisymm hk (le_of_le (show (16 : Int32) = nI 16 from rfl) h3 (by decide) (by omega) c15)
      subst hke
      refine aw_lo2 (lo' := [some (.ref 63), some (.int c), some (.int pol), none]) ⟨rfl, rfl, rfl, trivial⟩ ?_
      exact kk
    · have n15 := Int32.not_le.mp c15
      have hlt : k < 16 := lt_of_nle (show (16 : Int32) = nI 16 from rfl) h3 (by decide) (by omega) c15
      refine aw_aload_n dX10_plan_18 rfl ?_
      refine aw_get fl_X10_26 dX10_plan_19 eq_63 (l_63 hn) rfl ?_
      refine aw_iload_n dX10_plan_22 rfl ?_
      refine aw_iconst (v := -1) dX10_plan_23 (by decide) ?_
      refine aw_iastk dX10_plan_24 eq_69 (l_69 hn) h3 hlt rfl hq69 ?_
      refine aw_iinc (lo' := [_, _, _, some (.int _)]) dX10_plan_25 rfl (by decide) rfl ?_
      refine aw_goto 12 dX10_plan_28 (by decide) ?_
      refine aw_heq (h' := wld G (rpM M pl (mapK (fun _ => -1) le (k + 1)) 0 0)) (by rw [mapK_put rfl]) ?_
      exact ih (k + 1) _ (by omega) (by omega) (by rw [h3]; exact inc1 k)

set_option maxRecDepth 100000 in
set_option maxHeartbeats 4000000 in
theorem lp_X10_plan2 {G : AG} {M : Nat → Nat → Int32} {n : Nat} (hn : 72 ≤ n) {nb : Nat} (hb : M 64 4 = nI nb) (hbl : nb ≤ 60) {nz : Nat} (hz : M 64 3 = nI nz) (hzl : nz ≤ 12) (hST : ∀ k, k < nb → V M 20 k = 1 → ∃ m : Nat, m < 16 ∧ V M 21 k = nI m) {S : PlS} {c pol : Int32} {Po : APost} (kk : AW tX10_plan (AQm tX10_plan Po) C0 87 [some (.ref 63), some (.int c), some (.int pol), none] [] (wld G (rpM M (psR M nz c S nb).1 (psR M nz c S nb).2.1 (psR M nz c S nb).2.2.1 (psR M nz c S nb).2.2.2)) n 0 0) : ∀ (j k : Nat) (x3 : Int32), nb - k < j → k ≤ nb → x3 = nI k →  AW tX10_plan (AQm tX10_plan (Po)) C0 33 [some (.ref 63), some (.int c), some (.int pol), some (.int x3)] [] (wld G (rpM M (psR M nz c S k).1 (psR M nz c S k).2.1 (psR M nz c S k).2.2.1 (psR M nz c S k).2.2.2)) n 0 0 := by
  intro j
  induction j with
  | zero => intro k x3 h0; omega
  | succ j ih =>
    intro k x3 h0 hk h3
    refine aw_iload_n dX10_plan_33 rfl ?_
    refine aw_aload_n dX10_plan_34 rfl ?_
    refine aw_get fl_X10_7 dX10_plan_35 eq_63 (l_63 hn) rfl ?_
    refine aw_iconst (v := 4) dX10_plan_38 (by decide) ?_
    refine aw_ialdk dX10_plan_39 eq_64 (l_64 hn) (show (4 : Int32) = nI 4 from rfl) (by decide) rfl ?_
    refine aw_icmp_ge 87 dX10_plan_40 (by decide) (fun c40 => ?_) (fun c40 => ?_)
    · have n40 := Int32.not_lt.mpr c40
      have hke : k = nb := Nat.le_antisymm hk (le_of_le hb h3 (by omega) (by omega) c40)
      subst hke
      refine aw_lo2 (lo' := [some (.ref 63), some (.int c), some (.int pol), none]) ⟨rfl, rfl, rfl, trivial⟩ ?_
      exact kk
    · have n40 := Int32.not_le.mp c40
      have hlt : k < nb := lt_of_nle hb h3 (by omega) (by omega) c40
      refine aw_aload_n dX10_plan_43 rfl ?_
      refine aw_get fl_X10_23 dX10_plan_44 eq_63 (l_63 hn) rfl ?_
      refine aw_iload_n dX10_plan_47 rfl ?_
      refine aw_iconst (v := -1) dX10_plan_48 (by decide) ?_
      refine aw_iastk dX10_plan_49 eq_68 (l_68 hn) h3 (by omega) rfl hq68 ?_
      refine aw_aload_n dX10_plan_50 rfl ?_
      refine aw_iload_n dX10_plan_51 rfl ?_
      refine aw_iconst (v := 4) dX10_plan_52 (by decide) ?_
      refine ap_callVi kv_X10_102 ko_X10_booking (cq_booking_4 hn h3 (by omega)) dX10_plan_53 eq_63 (l_63 hn) rfl rfl rfl rfl (ble' rfl) (by decide) ?_
      refine aw_iconst (v := 1) dX10_plan_56 (by decide) ?_
      refine aw_icmp_ne 81 dX10_plan_57 (by decide) (fun c57 => ?_) (fun c57 => ?_)
      · refine aw_iinc (lo' := [_, _, _, some (.int _)]) dX10_plan_81 rfl (by decide) rfl ?_
        refine aw_goto 33 dX10_plan_84 (by decide) ?_
        refine aw_heq (h' := (wld G (rpM M (psR M nz c S (k + 1)).1 (psR M nz c S (k + 1)).2.1 (psR M nz c S (k + 1)).2.2.1 (psR M nz c S (k + 1)).2.2.2))) (by rw [psR_f (fun q => c57 q.1)]) ?_
        exact ih (k + 1) _ (by omega) (by omega) (by rw [h3]; exact inc1 k)
      · refine aw_aload_n dX10_plan_60 rfl ?_
        refine aw_iload_n dX10_plan_61 rfl ?_
        refine aw_iconst (v := 0) dX10_plan_62 (by decide) ?_
        refine ap_callVi kv_X10_102 ko_X10_booking (cq_booking_0 hn h3 (by omega)) dX10_plan_63 eq_63 (l_63 hn) rfl rfl rfl rfl (ble' rfl) (by decide) ?_
        refine aw_iload_n dX10_plan_66 rfl ?_
        refine aw_icmp_ne 81 dX10_plan_67 (by decide) (fun c67 => ?_) (fun c67 => ?_)
        · refine aw_iinc (lo' := [_, _, _, some (.int _)]) dX10_plan_81 rfl (by decide) rfl ?_
          refine aw_goto 33 dX10_plan_84 (by decide) ?_
          refine aw_heq (h' := (wld G (rpM M (psR M nz c S (k + 1)).1 (psR M nz c S (k + 1)).2.1 (psR M nz c S (k + 1)).2.2.1 (psR M nz c S (k + 1)).2.2.2))) (by rw [psR_f (fun q => c67 q.2)]) ?_
          exact ih (k + 1) _ (by omega) (by omega) (by rw [h3]; exact inc1 k)
        · obtain ⟨m, hm16, hm⟩ := hST k hlt c57
          refine aw_aload_n dX10_plan_70 rfl ?_
          refine aw_iload_n dX10_plan_71 rfl ?_
          refine aw_aload_n dX10_plan_72 rfl ?_
          refine aw_iload_n dX10_plan_73 rfl ?_
          refine aw_iconst (v := 5) dX10_plan_74 (by decide) ?_
          refine ap_callVi kv_X10_102 ko_X10_booking (cq_booking_5 hn h3 (by omega)) dX10_plan_75 eq_63 (l_63 hn) rfl rfl rfl rfl (ble' rfl) (by decide) ?_
          refine ap_callVv kv_X10_186 ko_X10_place (c_X10_place hn hz hzl h3 (by omega) hm hm16) dX10_plan_78 eq_63 (l_63 hn) rfl rfl rfl rfl (ble' rfl) (by decide) ?_
          refine aw_iinc (lo' := [_, _, _, some (.int _)]) dX10_plan_81 rfl (by decide) rfl ?_
          refine aw_goto 33 dX10_plan_84 (by decide) ?_
          refine aw_heq (h' := (wld G (rpM M (psR M nz c S (k + 1)).1 (psR M nz c S (k + 1)).2.1 (psR M nz c S (k + 1)).2.2.1 (psR M nz c S (k + 1)).2.2.2))) (by rw [psR_t ⟨c57, c67⟩]; unfold plcR; rw [cl_of hm (by omega)]) ?_
          exact ih (k + 1) _ (by omega) (by omega) (by rw [h3]; exact inc1 k)

set_option maxRecDepth 100000 in
set_option maxHeartbeats 4000000 in
theorem lp_X10_plan3 {G : AG} {M : Nat → Nat → Int32} {n : Nat} (hn : 72 ≤ n) {ns : Nat} (hs : M 64 2 = nI ns) (hsl : ns ≤ 16) {nb : Nat} (hb : M 64 4 = nI nb) (hbl : nb ≤ 60) {nz : Nat} (hz : M 64 3 = nI nz) (hzl : nz ≤ 12) {c pol : Int32} {S2 : PlS} : ∀ (f : Nat) (S : PlS) (x3 : Int32), plR M ns nb nz c pol f S = some S2 → x3 = nxR M nb c S →  AW tX10_plan (AQm tX10_plan (PD (.inl none) (wld G (rpM M S2.1 S2.2.1 S2.2.2.1 S2.2.2.2)) n)) C0 93 [some (.ref 63), some (.int c), some (.int pol), some (.int x3)] [] (wld G (rpM M S.1 S.2.1 S.2.2.1 S.2.2.2)) n 0 0 := by
  intro f
  induction f with
  | zero => intro S x3 hf; cases hf
  | succ f ih =>
    intro S x3 hf h3
    refine aw_iload_n dX10_plan_93 rfl ?_
    refine aw_iconst (v := -1) dX10_plan_94 (by decide) ?_
    refine aw_icmp_eq 118 dX10_plan_95 (by decide) (fun c95 => ?_) (fun c95 => ?_)
    · refine aw_vret rfl dX10_plan_118 (ble' rfl) (ble' rfl) ?_
      unfold plR at hf
      rw [if_pos (h3.symm.trans c95)] at hf
      cases hf
      exact pd_v rfl
    · obtain ⟨nx, hnx, hx3, -⟩ := (best_in (nxB (V M 16) (V M 20) S.1 c) (fun k b => decide (V M 17 k < V M 17 b)) nb).resolve_left (fun q => c95 (h3.trans q))
      have hN : nxR M nb c S = nI nx := hx3
      rw [show bestN (nxB (V M 16) (V M 20) S.1 c) (fun k b => decide (V M 17 k < V M 17 b)) nb = x3 from h3.symm] at hx3
      unfold plR at hf
      rw [if_neg (fun q => c95 (h3.trans q)), hN, cl_of (rfl : nI nx = nI nx) (by omega)] at hf
      have hcn : ¬ fsR M ns pol S nx = -1 := fun q => by rw [if_pos q] at hf; cases hf
      rw [if_neg hcn] at hf
      obtain ⟨ch, hcs, hch, -⟩ := (best_in (chB (V M 7) (V M 8) S.2.1 (V M 16 nx) (V M 17 nx)) (fun k b => decide (pol = 1 ∧ S.2.1 b < S.2.1 k)) ns).resolve_left hcn
      refine aw_aload_n dX10_plan_98 rfl ?_
      refine aw_iload_n dX10_plan_99 rfl ?_
      refine aw_aload_n dX10_plan_100 rfl ?_
      refine aw_iload_n dX10_plan_101 rfl ?_
      refine aw_iload_n dX10_plan_102 rfl ?_
      refine ap_callVi kv_X10_193 ko_X10_freeSite (c_X10_freeSite hn hs hsl hx3 (by omega)) dX10_plan_103 eq_63 (l_63 hn) rfl rfl rfl rfl (ble' rfl) (by decide) ?_
      refine ap_callVv kv_X10_186 ko_X10_place (c_X10_place hn hz hzl hx3 (by omega) hch (by omega)) dX10_plan_106 eq_63 (l_63 hn) rfl rfl rfl rfl (ble' rfl) (by decide) ?_
      refine aw_heq (h' := (wld G (rpM M (plcR M nz S nx (fsR M ns pol S nx)).1 (plcR M nz S nx (fsR M ns pol S nx)).2.1 (plcR M nz S nx (fsR M ns pol S nx)).2.2.1 (plcR M nz S nx (fsR M ns pol S nx)).2.2.2))) (by unfold plcR fsR; rw [hch, cl_of (rfl : nI ch = nI ch) (by omega)]) ?_
      generalize plcR M nz S nx (fsR M ns pol S nx) = S2 at hf ⊢
      refine aw_aload_n dX10_plan_109 rfl ?_
      refine aw_iload_n dX10_plan_110 rfl ?_
      refine ap_callVi kv_X10_190 ko_X10_nextBooking (c_X10_nextBooking hn hb hbl c) dX10_plan_111 eq_63 (l_63 hn) rfl rfl rfl rfl (ble' rfl) (by decide) ?_
      refine aw_istore_n (lo' := [_, _, _, some (.int _)]) dX10_plan_114 (by decide) rfl ?_
      refine aw_goto 93 dX10_plan_115 (by decide) ?_
      exact ih _ _ hf rfl

set_option maxRecDepth 100000 in
set_option maxHeartbeats 4000000 in
theorem c_X10_plan {G : AG} {M : Nat → Nat → Int32} {n : Nat} (hn : 72 ≤ n) {ns : Nat} (hs : M 64 2 = nI ns) (hsl : ns ≤ 16) {nb : Nat} (hb : M 64 4 = nI nb) (hbl : nb ≤ 60) {nz : Nat} (hz : M 64 3 = nI nz) (hzl : nz ≤ 12) (hST : ∀ k, k < nb → V M 20 k = 1 → ∃ m : Nat, m < 16 ∧ V M 21 k = nI m) {c pol : Int32} {f : Nat} {S2 : PlS} (hf : plA M ns nb nz c pol f = some S2) : AMet tX10_plan yX10_plan [Cond.code yX10_plan cX10_plan 4 none] [.ref 63, .int c, .int pol] (wld G M) n (PD (.inl none) (wld G (rpM M S2.1 S2.2.1 S2.2.2.1 S2.2.2.2)) n) := by
  refine am_of (lo := [_, _, _, _]) (by decide) rfl (fun q => by cases q) rfl rfl rfl ?_
  refine aw_heq (show wld G M = wld G (rpM M (M 68) (M 69) (M 63 7) (M 63 8)) by rw [rpM_id]) ?_
  refine aw_aload_n dX10_plan_0 rfl ?_
  refine aw_iconst (v := 0) dX10_plan_1 (by decide) ?_
  refine aw_put fp_X10_180_m dX10_plan_2 eq_63 (l_63 hn) (ble' rfl) (fun _ => ⟨rfl, rfl⟩) (hq63g rfl) ?_
  refine aw_aload_n dX10_plan_5 rfl ?_
  refine aw_iconst (v := 0) dX10_plan_6 (by decide) ?_
  refine aw_put fp_X10_183_m dX10_plan_7 eq_63 (l_63 hn) (ble' rfl) (fun _ => ⟨rfl, rfl⟩) (hq63o rfl) ?_
  refine aw_iconst (v := 0) dX10_plan_10 (by decide) ?_
  refine aw_istore_n (lo' := [_, _, _, some (.int _)]) dX10_plan_11 (by decide) rfl ?_
  refine aw_heq (h' := wld G (rpM M (M 68) (mapK (fun _ => -1) (M 69) 0) 0 0)) (by rw [mapK_0]) ?_
  refine lp_X10_plan1 hn ?_ 17 0 _ (by omega) (by omega) rfl
  refine aw_iconst (v := 0) dX10_plan_31 (by decide) ?_
  refine aw_istore_n (lo' := [_, _, _, some (.int _)]) dX10_plan_32 (by decide) rfl ?_
  refine lp_X10_plan2 (S := (M 68, mapK (fun _ => -1) (M 69) 16, 0, 0)) hn hb hbl hz hzl hST ?_ (nb + 1) 0 _ (by omega) (by omega) rfl
  refine aw_aload_n dX10_plan_87 rfl ?_
  refine aw_iload_n dX10_plan_88 rfl ?_
  refine ap_callVi kv_X10_190 ko_X10_nextBooking (c_X10_nextBooking hn hb hbl c) dX10_plan_89 eq_63 (l_63 hn) rfl rfl rfl rfl (ble' rfl) (by decide) ?_
  refine aw_istore_n (lo' := [_, _, _, some (.int _)]) dX10_plan_92 (by decide) rfl ?_
  exact lp_X10_plan3 hn hs hsl hb hbl hz hzl f _ _ hf rfl

def cr_planSite (M : Nat → Nat → Int32) (b p : Int32) : Nat := if ¬ (0 ≤ b ∧ b ≤ M 64 4 - 1) then 1 else if ¬ (0 ≤ p ∧ p ≤ 1) then 2 else if ¬ (actP (V M 20 b.toNatClampNeg)) then 3 else 0
set_option maxRecDepth 100000 in
set_option maxHeartbeats 4000000 in
theorem c_X10_planSite {G : AG} {M : Nat → Nat → Int32} {n : Nat} (hn : 72 ≤ n) {nc ns nz nb nr tt : Nat} (hI : CR M nc ns nz nb nr tt) {f : Nat} {S : Int32 → PlS} (hST : ∀ k, k < nb → V M 20 k = 1 → ∃ m : Nat, m < 16 ∧ V M 21 k = nI m) (b p : Int32) (hf : ∀ c, plA M ns nb nz c p f = some (S c)) : AMet tX10_planSite yX10_planSite [Cond.code yX10_planSite cX10_planSite 3 (some .int)] [.ref 63, .int b, .int p] (wld G M) n (PR (cr_planSite M b p) ((S (V M 16 b.toNatClampNeg)).1 b.toNatClampNeg) G M M n) := by
  refine am_of (lo := [_, _, _]) (by decide) rfl (fun q => by cases q) rfl rfl rfl ?_
  refine aw_aload_n dX10_planSite_0 rfl ?_
  refine aw_iconst (v := 0) dX10_planSite_1 (by decide) ?_
  refine aw_put fp_X10_36_m dX10_planSite_2 e_63 (l_63 hn) (ble' rfl) (fun _ => ⟨rfl, rfl⟩) (hwf rfl) ?_
  obtain ⟨M', e68, e69, e64, e63, eRS, e4, eW⟩ : ∃ M', M 68 = M' 68 ∧ M 69 = M' 69 ∧ M 64 = M' 64 ∧ (∀ j, j ≠ 4 → M 63 j = M' 63 j) ∧ RS M M' ∧ M' 63 4 = 0 ∧ wld G (updM M 63 (upd (M 63) 4 0)) = wld G M' := ⟨_, rfl, rfl, rfl, fun j h => (if_neg h).symm, rs_1, rfl, rfl⟩
  refine aw_heq eW ?_
  rw [show cr_planSite M b p = cr_planSite M' b p from by unfold cr_planSite; simp only [e64, V_eq e64, rlV_eq e64, avV_eq e64, frR_eq e64, onV_eq e64, mnV_eq e64, osV_eq e64, vaV_eq e64, nsR_eq e64, nbR_eq e64, nzR_eq e64, nrR_eq e64]]
  rw [show ((S (V M 16 b.toNatClampNeg)).1 b.toNatClampNeg) = ((S (V M' 16 b.toNatClampNeg)).1 b.toNatClampNeg) from by simp only [e64, V_eq e64, rlV_eq e64, avV_eq e64, frR_eq e64, onV_eq e64, mnV_eq e64, osV_eq e64, vaV_eq e64, nsR_eq e64, nbR_eq e64, nzR_eq e64, nrR_eq e64]]
  have hI' : CR M' nc ns nz nb nr tt := by unfold CR at hI ⊢; rw [← e64]; exact hI
  clear hI eW
  obtain ⟨hc, hcl, hs, hsl, hz, hzl, hb, hbl, hr, hrl, ht, htl⟩ := id hI'
  have ens : nsR M' = ns := cl_of hs (by omega)
  have enb : nbR M' = nb := cl_of hb (by omega)
  have enz : nzR M' = nz := cl_of hz (by omega)
  have enr : nrR M' = nr := cl_of hr (by omega)
  refine aw_aload_n dX10_planSite_5 rfl ?_
  refine aw_iload_n dX10_planSite_6 rfl ?_
  refine ap_callVi kv_X10_141 ko_X10_isBooking (c_X10_isBooking hn _) dX10_planSite_7 e_63 (l_63 hn) rfl rfl rfl rfl (ble' rfl) (by decide) ?_
  refine aw_if_ne 19 dX10_planSite_10 (by decide) (fun c10 => ?_) (fun c10 => ?_)
  · have n10 := bI_nz.mp c10
    refine aw_iload_n dX10_planSite_19 rfl ?_
    refine aw_iconst (v := 0) dX10_planSite_20 (by decide) ?_
    refine aw_iconst (v := 1) dX10_planSite_21 (by decide) ?_
    refine ap_callSi ks_X10_39 ko_X10_isBetween (c_X10_isBetween _ _ _) dX10_planSite_22 rfl rfl (ble' rfl) (by decide) ?_
    refine aw_if_ne 34 dX10_planSite_25 (by decide) (fun c25 => ?_) (fun c25 => ?_)
    · have n25 := bI_nz.mp c25
      obtain ⟨kb, hkb, hkB⟩ := cls_of hb (by omega) n10
      refine aw_aload_n dX10_planSite_34 rfl ?_
      refine aw_iload_n dX10_planSite_35 rfl ?_
      refine ap_callVi kv_X10_105 ko_X10_isActive (c_X10_isActive hn hkB (by omega)) dX10_planSite_36 e_63 (l_63 hn) rfl rfl rfl rfl (ble' rfl) (by decide) ?_
      refine aw_if_ne 48 dX10_planSite_39 (by decide) (fun c39 => ?_) (fun c39 => ?_)
      · have n39 := bI_nz.mp c39
        refine aw_aload_n dX10_planSite_48 rfl ?_
        refine aw_aload_n dX10_planSite_49 rfl ?_
        refine aw_iload_n dX10_planSite_50 rfl ?_
        refine aw_iconst (v := 0) dX10_planSite_51 (by decide) ?_
        refine ap_callVi kv_X10_102 ko_X10_booking (c_X10_booking_0 hn hkB (by omega)) dX10_planSite_52 e_63 (l_63 hn) rfl rfl rfl rfl (ble' rfl) (by decide) ?_
        refine aw_iload_n dX10_planSite_55 rfl ?_
        refine ap_callVv kv_X10_196 ko_X10_plan (c_X10_plan hn hs hsl hb hbl hz hzl (by rw [V_eq e64] at hST; exact hST) ((congrFun (congrFun (congrFun (congrFun (congrFun (congrFun (plA_eq e64 e68 e69) _) _) _) _) _) _).symm.trans (hf (V M' 16 kb)))) dX10_planSite_56 e_63 (l_63 hn) rfl rfl rfl rfl (ble' rfl) (by decide) ?_
        refine aw_aload_n dX10_planSite_59 rfl ?_
        refine aw_get fl_X10_23 dX10_planSite_60 eq_63 (l_63 hn) rfl ?_
        refine aw_iload_n dX10_planSite_63 rfl ?_
        refine aw_ialdk dX10_planSite_64 eq_68 (l_68 hn) hkB (by omega) rfl ?_
        refine aw_iret rfl dX10_planSite_65 (ble' rfl) (ble' rfl) ?_
        exact pr_ok (by rw [cr_planSite, if_neg (fun q => q n10), if_neg (fun q => q n25), if_neg (fun q => q (by rw [cl_of hkB (show kb < 2 ^ 31 by omega)]; exact n39))]) (by rw [cl_of hkB (show kb < 2 ^ 31 by omega)]) (rs_rp eRS) e4
      · have n39 := bI_z.mp c39
        refine aw_aload_n dX10_planSite_42 rfl ?_
        refine aw_iconst (v := 3) dX10_planSite_43 (by decide) ?_
        refine ap_callVi kv_X10_43 ko_X10_fail (c_X10_fail hn _) dX10_planSite_44 e_63 (l_63 hn) rfl rfl rfl rfl (ble' rfl) (by decide) ?_
        refine aw_iret rfl dX10_planSite_47 (ble' rfl) (ble' rfl) ?_
        exact pr_no (k := 2) (by rw [cr_planSite, if_neg (fun q => q n10), if_neg (fun q => q n25), if_pos (fun q => n39 (by rw [cl_of hkB (show kb < 2 ^ 31 by omega)] at q; exact q))]) (rs_tr eRS rs_1) rfl
    · have n25 := bI_z.mp c25
      refine aw_aload_n dX10_planSite_28 rfl ?_
      refine aw_iconst (v := 2) dX10_planSite_29 (by decide) ?_
      refine ap_callVi kv_X10_43 ko_X10_fail (c_X10_fail hn _) dX10_planSite_30 e_63 (l_63 hn) rfl rfl rfl rfl (ble' rfl) (by decide) ?_
      refine aw_iret rfl dX10_planSite_33 (ble' rfl) (ble' rfl) ?_
      exact pr_no (k := 1) (by rw [cr_planSite, if_neg (fun q => q n10), if_pos n25]) (rs_tr eRS rs_1) rfl
  · have n10 := bI_z.mp c10
    refine aw_aload_n dX10_planSite_13 rfl ?_
    refine aw_iconst (v := 1) dX10_planSite_14 (by decide) ?_
    refine ap_callVi kv_X10_43 ko_X10_fail (c_X10_fail hn _) dX10_planSite_15 e_63 (l_63 hn) rfl rfl rfl rfl (ble' rfl) (by decide) ?_
    refine aw_iret rfl dX10_planSite_18 (ble' rfl) (ble' rfl) ?_
    exact pr_no (k := 0) (by rw [cr_planSite, if_pos n10]) (rs_tr eRS rs_1) rfl

theorem wp_0 {M : Nat → Nat → Int32} {c p : Int32} (h : nI (wpR M c p) = 0) : wpR M c p = 0 := by
  unfold wpR at h ⊢
  split
  · rename_i q; rw [if_pos q] at h; exact absurd h (by decide)
  · rename_i q
    rw [if_neg q] at h
    split
    · rename_i q2; rw [if_pos q2] at h; exact absurd h (by decide)
    · rfl
set_option maxRecDepth 100000 in
set_option maxHeartbeats 4000000 in
theorem c_X10_gapNights {G : AG} {M : Nat → Nat → Int32} {n : Nat} (hn : 72 ≤ n) {nc ns nz nb nr tt : Nat} (hI : CR M nc ns nz nb nr tt) {f : Nat} {S : Int32 → PlS} (hST : ∀ k, k < nb → V M 20 k = 1 → ∃ m : Nat, m < 16 ∧ V M 21 k = nI m) (c p : Int32) (hf : ∀ c, plA M ns nb nz c p f = some (S c)) : AMet tX10_gapNights yX10_gapNights [Cond.code yX10_gapNights cX10_gapNights 3 (some .int)] [.ref 63, .int c, .int p] (wld G M) n (PR (wpR M c p) (S c).2.2.1 G M M n) := by
  refine am_of (lo := [_, _, _]) (by decide) rfl (fun q => by cases q) rfl rfl rfl ?_
  refine aw_aload_n dX10_gapNights_0 rfl ?_
  refine aw_aload_n dX10_gapNights_1 rfl ?_
  refine aw_iload_n dX10_gapNights_2 rfl ?_
  refine aw_iload_n dX10_gapNights_3 rfl ?_
  refine ap_callVi kv_X10_199 ko_X10_wrongPlan (c_X10_wrongPlan hn _ _) dX10_gapNights_4 e_63 (l_63 hn) rfl rfl rfl rfl (ble' rfl) (by decide) ?_
  refine aw_put fp_X10_36_m dX10_gapNights_7 e_63 (l_63 hn) (ble' rfl) (fun _ => ⟨rfl, rfl⟩) (hwf rfl) ?_
  obtain ⟨M', e68, e69, e64, eRS, e4, eW⟩ : ∃ M', M 68 = M' 68 ∧ M 69 = M' 69 ∧ M 64 = M' 64 ∧ RS M M' ∧ M' 63 4 = nI (wpR M c p) ∧ wld G (updM M 63 (upd (M 63) 4 (nI (wpR M c p)))) = wld G M' := ⟨_, rfl, rfl, rfl, rs_1, rfl, rfl⟩
  refine aw_heq eW ?_
  have hI' : CR M' nc ns nz nb nr tt := by unfold CR at hI ⊢; rw [← e64]; exact hI
  clear hI eW
  obtain ⟨hc, hcl, hs, hsl, hz, hzl, hb, hbl, hr, hrl, ht, htl⟩ := id hI'
  refine aw_aload_n dX10_gapNights_10 rfl ?_
  refine aw_get fl_X10_36 dX10_gapNights_11 e_63 (l_63 hn) rfl ?_
  refine aw_if_eq 19 dX10_gapNights_14 (by decide) (fun c14 => ?_) (fun c14 => ?_)
  · refine aw_aload_n dX10_gapNights_19 rfl ?_
    refine aw_iload_n dX10_gapNights_20 rfl ?_
    refine aw_iload_n dX10_gapNights_21 rfl ?_
    refine ap_callVv kv_X10_196 ko_X10_plan (c_X10_plan (M := M') hn hs hsl hb hbl hz hzl (by rw [V_eq e64] at hST; exact hST) ((congrFun (congrFun (congrFun (congrFun (congrFun (congrFun (plA_eq e64 e68 e69) _) _) _) _) _) _).symm.trans (hf c))) dX10_gapNights_22 e_63 (l_63 hn) rfl rfl rfl rfl (ble' rfl) (by decide) ?_
    refine aw_aload_n dX10_gapNights_25 rfl ?_
    refine aw_get fl_X10_180 dX10_gapNights_26 eq_63 (l_63 hn) rfl ?_
    refine aw_iret rfl dX10_gapNights_29 (ble' rfl) (ble' rfl) ?_
    exact pr_ok (wp_0 (e4.symm.trans c14)) rfl (rs_rp eRS) (show M' 63 4 = 0 from c14)
  · refine aw_iconst (v := 0) dX10_gapNights_17 (by decide) ?_
    refine aw_iret rfl dX10_gapNights_18 (ble' rfl) (ble' rfl) ?_
    have hw : wpR M c p ≠ 0 := fun q => c14 (by rw [e4, q]; rfl)
    exact pr_no (k := wpR M c p - 1) (by omega) eRS (by rw [e4, show wpR M c p - 1 + 1 = wpR M c p by omega])

set_option maxRecDepth 100000 in
set_option maxHeartbeats 4000000 in
theorem c_X10_orphanNights {G : AG} {M : Nat → Nat → Int32} {n : Nat} (hn : 72 ≤ n) {nc ns nz nb nr tt : Nat} (hI : CR M nc ns nz nb nr tt) {f : Nat} {S : Int32 → PlS} (hST : ∀ k, k < nb → V M 20 k = 1 → ∃ m : Nat, m < 16 ∧ V M 21 k = nI m) (c p : Int32) (hf : ∀ c, plA M ns nb nz c p f = some (S c)) : AMet tX10_orphanNights yX10_orphanNights [Cond.code yX10_orphanNights cX10_orphanNights 3 (some .int)] [.ref 63, .int c, .int p] (wld G M) n (PR (wpR M c p) (S c).2.2.2 G M M n) := by
  refine am_of (lo := [_, _, _]) (by decide) rfl (fun q => by cases q) rfl rfl rfl ?_
  refine aw_aload_n dX10_orphanNights_0 rfl ?_
  refine aw_aload_n dX10_orphanNights_1 rfl ?_
  refine aw_iload_n dX10_orphanNights_2 rfl ?_
  refine aw_iload_n dX10_orphanNights_3 rfl ?_
  refine ap_callVi kv_X10_199 ko_X10_wrongPlan (c_X10_wrongPlan hn _ _) dX10_orphanNights_4 e_63 (l_63 hn) rfl rfl rfl rfl (ble' rfl) (by decide) ?_
  refine aw_put fp_X10_36_m dX10_orphanNights_7 e_63 (l_63 hn) (ble' rfl) (fun _ => ⟨rfl, rfl⟩) (hwf rfl) ?_
  obtain ⟨M', e68, e69, e64, eRS, e4, eW⟩ : ∃ M', M 68 = M' 68 ∧ M 69 = M' 69 ∧ M 64 = M' 64 ∧ RS M M' ∧ M' 63 4 = nI (wpR M c p) ∧ wld G (updM M 63 (upd (M 63) 4 (nI (wpR M c p)))) = wld G M' := ⟨_, rfl, rfl, rfl, rs_1, rfl, rfl⟩
  refine aw_heq eW ?_
  have hI' : CR M' nc ns nz nb nr tt := by unfold CR at hI ⊢; rw [← e64]; exact hI
  clear hI eW
  obtain ⟨hc, hcl, hs, hsl, hz, hzl, hb, hbl, hr, hrl, ht, htl⟩ := id hI'
  refine aw_aload_n dX10_orphanNights_10 rfl ?_
  refine aw_get fl_X10_36 dX10_orphanNights_11 e_63 (l_63 hn) rfl ?_
  refine aw_if_eq 19 dX10_orphanNights_14 (by decide) (fun c14 => ?_) (fun c14 => ?_)
  · refine aw_aload_n dX10_orphanNights_19 rfl ?_
    refine aw_iload_n dX10_orphanNights_20 rfl ?_
    refine aw_iload_n dX10_orphanNights_21 rfl ?_
    refine ap_callVv kv_X10_196 ko_X10_plan (c_X10_plan (M := M') hn hs hsl hb hbl hz hzl (by rw [V_eq e64] at hST; exact hST) ((congrFun (congrFun (congrFun (congrFun (congrFun (congrFun (plA_eq e64 e68 e69) _) _) _) _) _) _).symm.trans (hf c))) dX10_orphanNights_22 e_63 (l_63 hn) rfl rfl rfl rfl (ble' rfl) (by decide) ?_
    refine aw_aload_n dX10_orphanNights_25 rfl ?_
    refine aw_get fl_X10_183 dX10_orphanNights_26 eq_63 (l_63 hn) rfl ?_
    refine aw_iret rfl dX10_orphanNights_29 (ble' rfl) (ble' rfl) ?_
    exact pr_ok (wp_0 (e4.symm.trans c14)) rfl (rs_rp eRS) (show M' 63 4 = 0 from c14)
  · refine aw_iconst (v := 0) dX10_orphanNights_17 (by decide) ?_
    refine aw_iret rfl dX10_orphanNights_18 (ble' rfl) (ble' rfl) ?_
    have hw : wpR M c p ≠ 0 := fun q => c14 (by rw [e4, q]; rfl)
    exact pr_no (k := wpR M c p - 1) (by omega) eRS (by rw [e4, show wpR M c p - 1 + 1 = wpR M c p by omega])
