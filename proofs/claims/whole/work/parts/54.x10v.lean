def gcdR : Nat → Int32 → Int32 → Option Int32
  | 0, _, _ => none
  | f + 1, a, b => if b = 0 then some a else gcdR f b (a - a / b * b)
set_option maxRecDepth 100000 in
set_option maxHeartbeats 4000000 in
theorem lp_X10_commonDivisor {h : Nat → AE} {n : Nat} {a b v : Int32} : ∀ (f : Nat) (x2 x3 : Int32), gcdR f x2 x3 = some v →  AW tX10_commonDivisor (AQm tX10_commonDivisor (PD (.inl (some (.int v))) h n)) C0 4 [some (.int a), some (.int b), some (.int x2), some (.int x3), none] [] h n 0 0 := by
  intro f
  induction f with
  | zero => intro x2 x3 hf; cases hf
  | succ f ih =>
    intro x2 x3 hf
    refine aw_iload_n dX10_commonDivisor_4 rfl ?_
    refine aw_if_eq 21 dX10_commonDivisor_5 (by decide) (fun c5 => ?_) (fun c5 => ?_)
    · refine aw_iload_n dX10_commonDivisor_21 rfl ?_
      refine aw_iret rfl dX10_commonDivisor_22 (ble' rfl) (ble' rfl) ?_
      unfold gcdR at hf
      rw [if_pos c5] at hf
      cases hf
      exact pd_i rfl
    · refine aw_iload_n dX10_commonDivisor_8 rfl ?_
      refine aw_iload_n dX10_commonDivisor_9 rfl ?_
      refine aw_irem dX10_commonDivisor_10 c5 ?_
      refine aw_istore (lo' := [_, _, _, _, some (.int _)]) dX10_commonDivisor_11 (by decide) rfl ?_
      refine aw_iload_n dX10_commonDivisor_13 rfl ?_
      refine aw_istore_n (lo' := [_, _, some (.int _), _, _]) dX10_commonDivisor_14 (by decide) rfl ?_
      refine aw_iload dX10_commonDivisor_15 rfl ?_
      refine aw_istore_n (lo' := [_, _, _, some (.int _), _]) dX10_commonDivisor_17 (by decide) rfl ?_
      refine aw_goto 4 dX10_commonDivisor_18 (by decide) ?_
      refine aw_lo2 (lo' := [some (.int a), some (.int b), some (.int _), some (.int _), none]) ⟨rfl, rfl, rfl, rfl, trivial⟩ ?_
      unfold gcdR at hf
      rw [if_neg c5] at hf
      exact ih _ _ hf

set_option maxRecDepth 100000 in
set_option maxHeartbeats 4000000 in
theorem c_X10_commonDivisor {h : Nat → AE} {n : Nat} {a b v : Int32} {f : Nat} (hf : gcdR f a b = some v) : AMet tX10_commonDivisor yX10_commonDivisor [Cond.code yX10_commonDivisor cX10_commonDivisor 5 (some .int)] [.int a, .int b] h n (PD (.inl (some (.int v))) h n) := by
  refine am_of (lo := [_, _, _, _, _]) (by decide) rfl (fun q => by cases q) rfl rfl rfl ?_
  refine aw_iload_n dX10_commonDivisor_0 rfl ?_
  refine aw_istore_n (lo' := [_, _, some (.int _), _, _]) dX10_commonDivisor_1 (by decide) rfl ?_
  refine aw_iload_n dX10_commonDivisor_2 rfl ?_
  refine aw_istore_n (lo' := [_, _, _, some (.int _), _]) dX10_commonDivisor_3 (by decide) rfl ?_
  exact lp_X10_commonDivisor f _ _ hf

def tkV (M : Nat → Nat → Int32) (nb : Nat) (c : Int32) (a k : Nat) : Int32 := psum (fun d => nI (cnt (tkB (V M 16) (V M 17) (V M 18) (V M 20) c d) nb)) a k
def cpV (M : Nat → Nat → Int32) (ns : Nat) (c : Int32) (a k : Nat) : Int32 := psum (fun d => if M 64 0 ≤ d ∧ d ≤ 998 then nI (cnt (opB (V M 7) (V M 8) c d) ns) else 0) a k
theorem tkV_eq {A B : Nat → Nat → Int32} (h : A 64 = B 64) : tkV A = tkV B := by funext a b c d; unfold tkV; rw [V_eq h]
theorem cpV_eq {A B : Nat → Nat → Int32} (h : A 64 = B 64) : cpV A = cpV B := by funext a b c d; unfold cpV; rw [V_eq h, h]
def ocR (T C D e : Int32) : Int32 := if T = 0 then (if e = 0 then 1 else 0) else (if e = 0 then C else T) / D
set_option maxRecDepth 100000 in
set_option maxHeartbeats 4000000 in
theorem lp_X10_occupancy {G : AG} {M : Nat → Nat → Int32} {n : Nat} (hn : 72 ≤ n) {ns : Nat} (hs : M 64 2 = nI ns) (hsl : ns ≤ 16) {nb : Nat} (hb : M 64 4 = nI nb) (hbl : nb ≤ 60) {c f l e : Int32} {a b fu : Nat} (ha : a ≤ 998) (hb9 : b ≤ 998) (hab : a ≤ b) (hl : l = nI b) {D : Int32} (hg : gcdR fu (tkV M nb c a (b + 1 - a)) (cpV M ns c a (b + 1 - a)) = some D) (hD : ¬ tkV M nb c a (b + 1 - a) = 0 → ¬ D = 0) {Po : APost} (hR : ∀ v, v = ocR (tkV M nb c a (b + 1 - a)) (cpV M ns c a (b + 1 - a)) D e → Po (.inl (some (.int v))) (wld G M) n) : ∀ (j i : Nat) (x5 x6 x7 : Int32), b + 1 - (a + i) < j → i ≤ b + 1 - a → x7 = nI (a + i) → x5 = tkV M nb c a i → x6 = cpV M ns c a i →  AW tX10_occupancy (AQm tX10_occupancy (Po)) C0 53 [some (.ref 63), some (.int c), some (.int f), some (.int l), some (.int e), some (.int x5), some (.int x6), some (.int x7)] [] (wld G M) n 0 0 := by
  intro j
  induction j with
  | zero => intro i x5 x6 x7 h0; omega
  | succ j ih =>
    intro i x5 x6 x7 h0 hi h7 h5 h6
    refine aw_iload dX10_occupancy_53 rfl ?_
    refine aw_iload_n dX10_occupancy_55 rfl ?_
    refine aw_icmp_gt 89 dX10_occupancy_56 (by decide) (fun c56 => ?_) (fun c56 => ?_)
    · have n56 := Int32.not_le.mpr c56
      have hk9 : i = b + 1 - a := by have := lt_of_lt hl h7 (by omega) (by omega) c56; omega
      refine aw_iload dX10_occupancy_89 rfl ?_
      refine aw_if_ne 105 dX10_occupancy_91 (by decide) (fun c91 => ?_) (fun c91 => ?_)
      · refine aw_iload dX10_occupancy_105 rfl ?_
        refine aw_if_eq 115 dX10_occupancy_107 (by decide) (fun c107 => ?_) (fun c107 => ?_)
        · refine aw_iload dX10_occupancy_115 rfl ?_
          refine aw_iload dX10_occupancy_117 rfl ?_
          refine aw_iload dX10_occupancy_119 rfl ?_
          refine ap_callSi ks_X10_202 ko_X10_commonDivisor (c_X10_commonDivisor (by rw [h5, h6, hk9]; exact hg)) dX10_occupancy_121 rfl rfl (ble' rfl) (by decide) ?_
          refine aw_idiv dX10_occupancy_124 (hD (by rw [← hk9, ← h5]; exact c91)) ?_
          refine aw_iret rfl dX10_occupancy_125 (ble' rfl) (ble' rfl) ?_
          exact hR _ (by unfold ocR; rw [if_neg (by rw [← hk9, ← h5]; exact c91), if_pos c107, ← hk9, ← h6])
        · refine aw_iload dX10_occupancy_110 rfl ?_
          refine aw_goto 117 dX10_occupancy_112 (by decide) ?_
          refine aw_iload dX10_occupancy_117 rfl ?_
          refine aw_iload dX10_occupancy_119 rfl ?_
          refine ap_callSi ks_X10_202 ko_X10_commonDivisor (c_X10_commonDivisor (by rw [h5, h6, hk9]; exact hg)) dX10_occupancy_121 rfl rfl (ble' rfl) (by decide) ?_
          refine aw_idiv dX10_occupancy_124 (hD (by rw [← hk9, ← h5]; exact c91)) ?_
          refine aw_iret rfl dX10_occupancy_125 (ble' rfl) (ble' rfl) ?_
          exact hR _ (by unfold ocR; rw [if_neg (by rw [← hk9, ← h5]; exact c91), if_neg c107, ← hk9, ← h5])
      · refine aw_iload dX10_occupancy_94 rfl ?_
        refine aw_if_eq 103 dX10_occupancy_96 (by decide) (fun c96 => ?_) (fun c96 => ?_)
        · refine aw_iconst (v := 1) dX10_occupancy_103 (by decide) ?_
          refine aw_iret rfl dX10_occupancy_104 (ble' rfl) (ble' rfl) ?_
          exact hR _ (by unfold ocR; rw [if_pos (by rw [← hk9, ← h5]; exact c91), if_pos c96])
        · refine aw_iconst (v := 0) dX10_occupancy_99 (by decide) ?_
          refine aw_goto 104 dX10_occupancy_100 (by decide) ?_
          refine aw_iret rfl dX10_occupancy_104 (ble' rfl) (ble' rfl) ?_
          exact hR _ (by unfold ocR; rw [if_pos (by rw [← hk9, ← h5]; exact c91), if_neg c96])
    · have n56 := Int32.not_lt.mp c56
      have hlt : a + i ≤ b := le_of_nlt hl h7 (by omega) (by omega) c56
      refine aw_iload dX10_occupancy_59 rfl ?_
      refine aw_aload_n dX10_occupancy_61 rfl ?_
      refine aw_iload_n dX10_occupancy_62 rfl ?_
      refine aw_iload dX10_occupancy_63 rfl ?_
      refine ap_callVi kv_X10_111 ko_X10_takenOf (c_X10_takenOf hn hb hbl c _) dX10_occupancy_65 e_63 (l_63 hn) rfl rfl rfl rfl (ble' rfl) (by decide) ?_
      refine aw_iadd dX10_occupancy_68 ?_
      refine aw_istore (lo' := [_, _, _, _, _, some (.int _), _, _]) dX10_occupancy_69 (by decide) rfl ?_
      refine aw_iload dX10_occupancy_71 rfl ?_
      refine aw_aload_n dX10_occupancy_73 rfl ?_
      refine aw_iload_n dX10_occupancy_74 rfl ?_
      refine aw_iload dX10_occupancy_75 rfl ?_
      refine ap_callVi kv_X10_94 ko_X10_capacityOf (c_X10_capacityOf hn hs hsl c _) dX10_occupancy_77 e_63 (l_63 hn) rfl rfl rfl rfl (ble' rfl) (by decide) ?_
      refine aw_iadd dX10_occupancy_80 ?_
      refine aw_istore (lo' := [_, _, _, _, _, _, some (.int _), _]) dX10_occupancy_81 (by decide) rfl ?_
      refine aw_iinc (lo' := [_, _, _, _, _, _, _, some (.int _)]) dX10_occupancy_83 rfl (by decide) rfl ?_
      refine aw_goto 53 dX10_occupancy_86 (by decide) ?_
      exact ih (i + 1) _ _ _ (by omega) (by omega) (by rw [h7]; exact inc1 _) (by rw [h5, h7]; rfl) (by rw [h6, h7]; rfl)

def cr_occupancy (M : Nat → Nat → Int32) (c f l e : Int32) : Nat := if ¬ (0 ≤ c ∧ c ≤ M 64 1 - 1) then 1 else if ¬ ((M 64 0 ≤ f ∧ f ≤ 998) ∧ (f ≤ l ∧ l ≤ 998)) then 2 else 0
set_option maxRecDepth 100000 in
set_option maxHeartbeats 4000000 in
theorem c_X10_occupancy {G : AG} {M : Nat → Nat → Int32} {n : Nat} (hn : 72 ≤ n) {nc ns nz nb nr tt : Nat} (hI : CR M nc ns nz nb nr tt)  (c f l e : Int32) {fu : Nat} {D : Int32} (hg : cr_occupancy M c f l e = 0 → gcdR fu (tkV M (nbR M) c f.toNatClampNeg (l.toNatClampNeg + 1 - f.toNatClampNeg)) (cpV M (nsR M) c f.toNatClampNeg (l.toNatClampNeg + 1 - f.toNatClampNeg)) = some D ∧ (¬ (tkV M (nbR M) c f.toNatClampNeg (l.toNatClampNeg + 1 - f.toNatClampNeg)) = 0 → ¬ D = 0)) : AMet tX10_occupancy yX10_occupancy [Cond.code yX10_occupancy cX10_occupancy 8 (some .int)] [.ref 63, .int c, .int f, .int l, .int e] (wld G M) n (PR (cr_occupancy M c f l e) (ocR (tkV M (nbR M) c f.toNatClampNeg (l.toNatClampNeg + 1 - f.toNatClampNeg)) (cpV M (nsR M) c f.toNatClampNeg (l.toNatClampNeg + 1 - f.toNatClampNeg)) D e) G M M n) := by
  refine am_of (lo := [_, _, _, _, _, _, _, _]) (by decide) rfl (fun q => by cases q) rfl rfl rfl ?_
  refine aw_aload_n dX10_occupancy_0 rfl ?_
  refine aw_iconst (v := 0) dX10_occupancy_1 (by decide) ?_
  refine aw_put fp_X10_36_m dX10_occupancy_2 e_63 (l_63 hn) (ble' rfl) (fun _ => ⟨rfl, rfl⟩) (hwf rfl) ?_
  obtain ⟨M', e64, e63, eRS, e4, eW⟩ : ∃ M', M 64 = M' 64 ∧ (∀ j, j ≠ 4 → M 63 j = M' 63 j) ∧ RS M M' ∧ M' 63 4 = 0 ∧ wld G (updM M 63 (upd (M 63) 4 0)) = wld G M' := ⟨_, rfl, fun j h => (if_neg h).symm, rs_1, rfl, rfl⟩
  refine aw_heq eW ?_
  rw [show cr_occupancy M c f l e = cr_occupancy M' c f l e from by unfold cr_occupancy; simp only [e64, V_eq e64, rlV_eq e64, avV_eq e64, frR_eq e64, onV_eq e64, mnV_eq e64, osV_eq e64, vaV_eq e64, tkV_eq e64, cpV_eq e64, nsR_eq e64, nbR_eq e64, nzR_eq e64, nrR_eq e64]]
  rw [show (ocR (tkV M (nbR M) c f.toNatClampNeg (l.toNatClampNeg + 1 - f.toNatClampNeg)) (cpV M (nsR M) c f.toNatClampNeg (l.toNatClampNeg + 1 - f.toNatClampNeg)) D e) = (ocR (tkV M' (nbR M') c f.toNatClampNeg (l.toNatClampNeg + 1 - f.toNatClampNeg)) (cpV M' (nsR M') c f.toNatClampNeg (l.toNatClampNeg + 1 - f.toNatClampNeg)) D e) from by simp only [e64, V_eq e64, rlV_eq e64, avV_eq e64, frR_eq e64, onV_eq e64, mnV_eq e64, osV_eq e64, vaV_eq e64, tkV_eq e64, cpV_eq e64, nsR_eq e64, nbR_eq e64, nzR_eq e64, nrR_eq e64]]
  rw [show cr_occupancy M c f l e = cr_occupancy M' c f l e from by unfold cr_occupancy; simp only [e64], tkV_eq e64, cpV_eq e64, nbR_eq e64, nsR_eq e64] at hg
  have hI' : CR M' nc ns nz nb nr tt := by unfold CR at hI ⊢; rw [← e64]; exact hI
  clear hI eW
  obtain ⟨hc, hcl, hs, hsl, hz, hzl, hb, hbl, hr, hrl, ht, htl⟩ := id hI'
  have ens : nsR M' = ns := cl_of hs (by omega)
  have enb : nbR M' = nb := cl_of hb (by omega)
  have enz : nzR M' = nz := cl_of hz (by omega)
  have enr : nrR M' = nr := cl_of hr (by omega)
  refine aw_aload_n dX10_occupancy_5 rfl ?_
  refine aw_iload_n dX10_occupancy_6 rfl ?_
  refine ap_callVi kv_X10_51 ko_X10_isClass (c_X10_isClass hn _) dX10_occupancy_7 e_63 (l_63 hn) rfl rfl rfl rfl (ble' rfl) (by decide) ?_
  refine aw_if_ne 19 dX10_occupancy_10 (by decide) (fun c10 => ?_) (fun c10 => ?_)
  · have n10 := bI_nz.mp c10
    refine aw_aload_n dX10_occupancy_19 rfl ?_
    refine aw_iload_n dX10_occupancy_20 rfl ?_
    refine ap_callVi kv_X10_88 ko_X10_isNight (c_X10_isNight hn _) dX10_occupancy_21 e_63 (l_63 hn) rfl rfl rfl rfl (ble' rfl) (by decide) ?_
    refine aw_if_eq 38 dX10_occupancy_24 (by decide) (fun c24 => ?_) (fun c24 => ?_)
    · have n24 := bI_z.mp c24
      refine aw_aload_n dX10_occupancy_38 rfl ?_
      refine aw_iconst (v := 2) dX10_occupancy_39 (by decide) ?_
      refine ap_callVi kv_X10_43 ko_X10_fail (c_X10_fail hn _) dX10_occupancy_40 e_63 (l_63 hn) rfl rfl rfl rfl (ble' rfl) (by decide) ?_
      refine aw_iret rfl dX10_occupancy_43 (ble' rfl) (ble' rfl) ?_
      exact pr_no (k := 1) (by rw [cr_occupancy, if_neg (fun q => q n10), if_pos (fun q => n24 q.1)]) (rs_tr eRS rs_1) rfl
    · have n24 := bI_nz.mp c24
      refine aw_iload_n dX10_occupancy_27 rfl ?_
      refine aw_iload_n dX10_occupancy_28 rfl ?_
      refine aw_sipush (v := 998) dX10_occupancy_29 (by decide) ?_
      refine ap_callSi ks_X10_39 ko_X10_isBetween (c_X10_isBetween _ _ _) dX10_occupancy_32 rfl rfl (ble' rfl) (by decide) ?_
      refine aw_if_ne 44 dX10_occupancy_35 (by decide) (fun c35 => ?_) (fun c35 => ?_)
      · have n35 := bI_nz.mp c35
        refine aw_iconst (v := 0) dX10_occupancy_44 (by decide) ?_
        refine aw_istore (lo' := [_, _, _, _, _, some (.int _), _, _]) dX10_occupancy_45 (by decide) rfl ?_
        refine aw_iconst (v := 0) dX10_occupancy_47 (by decide) ?_
        refine aw_istore (lo' := [_, _, _, _, _, _, some (.int _), _]) dX10_occupancy_48 (by decide) rfl ?_
        refine aw_iload_n dX10_occupancy_50 rfl ?_
        refine aw_istore (lo' := [_, _, _, _, _, _, _, some (.int _)]) dX10_occupancy_51 (by decide) rfl ?_
        obtain ⟨a, hta, ha9, hfa⟩ := rng_of ht (by omega) (show (998 : Int32) = nI 998 from rfl) (by decide) n24
        obtain ⟨b, hab, hb9, hl⟩ := rng_of hfa (by omega) (show (998 : Int32) = nI 998 from rfl) (by decide) n35
        have hg2 := hg (by rw [cr_occupancy, if_neg (fun q => q n10), if_neg (fun q => q ⟨n24, n35⟩)])
        rw [ens, enb, cl_of hfa (by omega), cl_of hl (by omega)] at hg2
        exact lp_X10_occupancy hn hs hsl hb hbl ha9 hb9 hab hl hg2.1 hg2.2 (fun v q => pr_ok (by rw [cr_occupancy, if_neg (fun q => q n10), if_neg (fun q => q ⟨n24, n35⟩)]) (by rw [ens, enb, cl_of hfa (by omega), cl_of hl (by omega)]; exact q) eRS e4) 1000 0 _ _ _ (by omega) (by omega) hfa rfl rfl
      · have n35 := bI_z.mp c35
        refine aw_aload_n dX10_occupancy_38 rfl ?_
        refine aw_iconst (v := 2) dX10_occupancy_39 (by decide) ?_
        refine ap_callVi kv_X10_43 ko_X10_fail (c_X10_fail hn _) dX10_occupancy_40 e_63 (l_63 hn) rfl rfl rfl rfl (ble' rfl) (by decide) ?_
        refine aw_iret rfl dX10_occupancy_43 (ble' rfl) (ble' rfl) ?_
        exact pr_no (k := 1) (by rw [cr_occupancy, if_neg (fun q => q n10), if_pos (fun q => n35 q.2)]) (rs_tr eRS rs_1) rfl
  · have n10 := bI_z.mp c10
    refine aw_aload_n dX10_occupancy_13 rfl ?_
    refine aw_iconst (v := 1) dX10_occupancy_14 (by decide) ?_
    refine ap_callVi kv_X10_43 ko_X10_fail (c_X10_fail hn _) dX10_occupancy_15 e_63 (l_63 hn) rfl rfl rfl rfl (ble' rfl) (by decide) ?_
    refine aw_iret rfl dX10_occupancy_18 (ble' rfl) (ble' rfl) ?_
    exact pr_no (k := 0) (by rw [cr_occupancy, if_pos n10]) (rs_tr eRS rs_1) rfl

set_option maxRecDepth 100000 in
set_option maxHeartbeats 4000000 in
theorem c_X10_occupancyNumerator {G : AG} {M : Nat → Nat → Int32} {n : Nat} (hn : 72 ≤ n) {nc ns nz nb nr tt : Nat} (hI : CR M nc ns nz nb nr tt) (c f l : Int32) {fu : Nat} {D : Int32} (hg : cr_occupancy M c f l 1 = 0 → gcdR fu (tkV M (nbR M) c f.toNatClampNeg (l.toNatClampNeg + 1 - f.toNatClampNeg)) (cpV M (nsR M) c f.toNatClampNeg (l.toNatClampNeg + 1 - f.toNatClampNeg)) = some D ∧ (¬ (tkV M (nbR M) c f.toNatClampNeg (l.toNatClampNeg + 1 - f.toNatClampNeg)) = 0 → ¬ D = 0)) : AMet tX10_occupancyNumerator yX10_occupancyNumerator [Cond.code yX10_occupancyNumerator cX10_occupancyNumerator 4 (some .int)] [.ref 63, .int c, .int f, .int l] (wld G M) n (PR (cr_occupancy M c f l 1) (ocR (tkV M (nbR M) c f.toNatClampNeg (l.toNatClampNeg + 1 - f.toNatClampNeg)) (cpV M (nsR M) c f.toNatClampNeg (l.toNatClampNeg + 1 - f.toNatClampNeg)) D 1) G M M n) := by
  refine am_of (lo := [_, _, _, _]) (by decide) rfl (fun q => by cases q) rfl rfl rfl ?_
  refine aw_aload_n dX10_occupancyNumerator_0 rfl ?_
  refine aw_iload_n dX10_occupancyNumerator_1 rfl ?_
  refine aw_iload_n dX10_occupancyNumerator_2 rfl ?_
  refine aw_iload_n dX10_occupancyNumerator_3 rfl ?_
  refine aw_iconst (v := 1) dX10_occupancyNumerator_4 (by decide) ?_
  refine ap_callR kv_X10_205 ko_X10_occupancy (c_X10_occupancy hn hI c f l _ hg) dX10_occupancyNumerator_5 e_63 (l_63 hn) rfl rfl rfl rfl (ble' rfl) (by decide) (fun M2 q1 q2 => ?_)
  refine aw_iret rfl dX10_occupancyNumerator_8 (ble' rfl) (ble' rfl) ?_
  exact ⟨rfl, rfl, M2, rfl, q1, q2⟩

set_option maxRecDepth 100000 in
set_option maxHeartbeats 4000000 in
theorem c_X10_occupancyDenominator {G : AG} {M : Nat → Nat → Int32} {n : Nat} (hn : 72 ≤ n) {nc ns nz nb nr tt : Nat} (hI : CR M nc ns nz nb nr tt) (c f l : Int32) {fu : Nat} {D : Int32} (hg : cr_occupancy M c f l 0 = 0 → gcdR fu (tkV M (nbR M) c f.toNatClampNeg (l.toNatClampNeg + 1 - f.toNatClampNeg)) (cpV M (nsR M) c f.toNatClampNeg (l.toNatClampNeg + 1 - f.toNatClampNeg)) = some D ∧ (¬ (tkV M (nbR M) c f.toNatClampNeg (l.toNatClampNeg + 1 - f.toNatClampNeg)) = 0 → ¬ D = 0)) : AMet tX10_occupancyDenominator yX10_occupancyDenominator [Cond.code yX10_occupancyDenominator cX10_occupancyDenominator 4 (some .int)] [.ref 63, .int c, .int f, .int l] (wld G M) n (PR (cr_occupancy M c f l 0) (ocR (tkV M (nbR M) c f.toNatClampNeg (l.toNatClampNeg + 1 - f.toNatClampNeg)) (cpV M (nsR M) c f.toNatClampNeg (l.toNatClampNeg + 1 - f.toNatClampNeg)) D 0) G M M n) := by
  refine am_of (lo := [_, _, _, _]) (by decide) rfl (fun q => by cases q) rfl rfl rfl ?_
  refine aw_aload_n dX10_occupancyDenominator_0 rfl ?_
  refine aw_iload_n dX10_occupancyDenominator_1 rfl ?_
  refine aw_iload_n dX10_occupancyDenominator_2 rfl ?_
  refine aw_iload_n dX10_occupancyDenominator_3 rfl ?_
  refine aw_iconst (v := 0) dX10_occupancyDenominator_4 (by decide) ?_
  refine ap_callR kv_X10_205 ko_X10_occupancy (c_X10_occupancy hn hI c f l _ hg) dX10_occupancyDenominator_5 e_63 (l_63 hn) rfl rfl rfl rfl (ble' rfl) (by decide) (fun M2 q1 q2 => ?_)
  refine aw_iret rfl dX10_occupancyDenominator_8 (ble' rfl) (ble' rfl) ?_
  exact ⟨rfl, rfl, M2, rfl, q1, q2⟩

set_option maxRecDepth 100000 in
set_option maxHeartbeats 4000000 in
theorem lp_X10_expected {G : AG} {M : Nat → Nat → Int32} {n : Nat} (hn : 72 ≤ n) {nb : Nat} (hb : M 64 4 = nI nb) (hbl : nb ≤ 60) {c d e : Int32} {Po : APost} (hR : ∀ v, v = nI (cnt (exB (V M 16) (V M 17) (V M 18) (V M 20) c d e) nb) → Po (.inl (some (.int v))) (wld G M) n) : ∀ (j k : Nat) (x4 x5 : Int32), nb - k < j → k ≤ nb → x5 = nI k → x4 = nI (cnt (exB (V M 16) (V M 17) (V M 18) (V M 20) c d e) k) →  AW tX10_expected (AQm tX10_expected (Po)) C0 43 [some (.ref 63), some (.int c), some (.int d), some (.int e), some (.int x4), some (.int x5), none, none, none] [] (wld G M) n 0 0 := by
  intro j
  induction j with
  | zero => intro k x4 x5 h0; omega
  | succ j ih =>
    intro k x4 x5 h0 hk h5 h4
    refine aw_iload dX10_expected_43 rfl ?_
    refine aw_aload_n dX10_expected_45 rfl ?_
    refine aw_get fl_X10_7 dX10_expected_46 e_63 (l_63 hn) rfl ?_
    refine aw_iconst (v := 4) dX10_expected_49 (by decide) ?_
    refine aw_ialdk dX10_expected_50 e_64 (l_64 hn) (show (4 : Int32) = nI 4 from rfl) (by decide) rfl ?_
    refine aw_icmp_ge 170 dX10_expected_51 (by decide) (fun c51 => ?_) (fun c51 => ?_)
    · have n51 := Int32.not_lt.mpr c51
      refine aw_iload dX10_expected_170 rfl ?_
      refine aw_iret rfl dX10_expected_172 (ble' rfl) (ble' rfl) ?_
      have hke : k = nb := Nat.le_antisymm hk (le_of_le hb h5 (by omega) (by omega) c51)
      exact hR _ (by rw [h4, hke])
    · have n51 := Int32.not_le.mp c51
      have hlt : k < nb := lt_of_nle hb h5 (by omega) (by omega) c51
      refine aw_iload_n dX10_expected_54 rfl ?_
      refine aw_iconst (v := -1) dX10_expected_55 (by decide) ?_
      refine aw_icmp_eq 70 dX10_expected_56 (by decide) (fun c56 => ?_) (fun c56 => ?_)
      · refine aw_iconst (v := 1) dX10_expected_70 (by decide) ?_
        refine aw_goto 75 dX10_expected_71 (by decide) ?_
        refine aw_istore (lo' := [_, _, _, _, _, _, some (.int _), _, _]) dX10_expected_75 (by decide) rfl ?_
        refine aw_aload_n dX10_expected_77 rfl ?_
        refine aw_iload dX10_expected_78 rfl ?_
        refine aw_iconst (v := 4) dX10_expected_80 (by decide) ?_
        refine ap_callVi kv_X10_102 ko_X10_booking (c_X10_booking_4 hn h5 (by omega)) dX10_expected_81 e_63 (l_63 hn) rfl rfl rfl rfl (ble' rfl) (by decide) ?_
        refine aw_if_ne 102 dX10_expected_84 (by decide) (fun c84 => ?_) (fun c84 => ?_)
        · refine aw_iconst (v := 0) dX10_expected_102 (by decide) ?_
          refine aw_istore (lo' := [_, _, _, _, _, _, _, some (.int _), _]) dX10_expected_103 (by decide) rfl ?_
          refine aw_aload_n dX10_expected_105 rfl ?_
          refine aw_iload dX10_expected_106 rfl ?_
          refine ap_callVi kv_X10_105 ko_X10_isActive (c_X10_isActive hn h5 (by omega)) dX10_expected_108 e_63 (l_63 hn) rfl rfl rfl rfl (ble' rfl) (by decide) ?_
          refine aw_if_eq 129 dX10_expected_111 (by decide) (fun c111 => ?_) (fun c111 => ?_)
          · have n111 := bI_z.mp c111
            refine aw_iconst (v := 0) dX10_expected_129 (by decide) ?_
            refine aw_istore (lo' := [_, _, _, _, _, _, _, _, some (.int _)]) dX10_expected_130 (by decide) rfl ?_
            refine aw_iload dX10_expected_132 rfl ?_
            refine aw_iload dX10_expected_134 rfl ?_
            refine aw_if_eq 160 dX10_expected_136 (by decide) (fun q => absurd q (by decide)) (fun _ => ?_)
            refine aw_iload_n dX10_expected_139 rfl ?_
            refine aw_if_eq 151 dX10_expected_140 (by decide) (fun c140 => ?_) (fun c140 => ?_)
            · refine aw_iload dX10_expected_151 rfl ?_
              refine aw_if_eq 160 dX10_expected_153 (by decide) (fun _ => ?_) (fun q => absurd q (by decide))
              refine aw_iconst (v := 0) dX10_expected_160 (by decide) ?_
              refine aw_iadd dX10_expected_161 ?_
              refine aw_istore (lo' := [_, _, _, _, some (.int _), _, _, _, _]) dX10_expected_162 (by decide) rfl ?_
              refine aw_iinc (lo' := [_, _, _, _, _, some (.int _), _, _, _]) dX10_expected_164 rfl (by decide) rfl ?_
              refine aw_goto 43 dX10_expected_167 (by decide) ?_
              refine aw_lo2 (lo' := [some (.ref 63), some (.int c), some (.int d), some (.int e), some (.int _), some (.int _), none, none, none]) ⟨rfl, rfl, rfl, rfl, rfl, rfl, trivial⟩ ?_
              exact ih (k + 1) _ _ (by omega) (by omega) (by rw [h5]; exact inc1 k) (by rw [h4]; simp [cnt, exB, inc1, nI_1, c56, c84, c111, n111, c140])
            · refine aw_iload dX10_expected_143 rfl ?_
              refine aw_if_eq 160 dX10_expected_145 (by decide) (fun _ => ?_) (fun q => absurd q (by decide))
              refine aw_iconst (v := 0) dX10_expected_160 (by decide) ?_
              refine aw_iadd dX10_expected_161 ?_
              refine aw_istore (lo' := [_, _, _, _, some (.int _), _, _, _, _]) dX10_expected_162 (by decide) rfl ?_
              refine aw_iinc (lo' := [_, _, _, _, _, some (.int _), _, _, _]) dX10_expected_164 rfl (by decide) rfl ?_
              refine aw_goto 43 dX10_expected_167 (by decide) ?_
              refine aw_lo2 (lo' := [some (.ref 63), some (.int c), some (.int d), some (.int e), some (.int _), some (.int _), none, none, none]) ⟨rfl, rfl, rfl, rfl, rfl, rfl, trivial⟩ ?_
              exact ih (k + 1) _ _ (by omega) (by omega) (by rw [h5]; exact inc1 k) (by rw [h4]; simp [cnt, exB, inc1, nI_1, c56, c84, c111, n111, c140])
          · have n111 := bI_nz.mp c111
            refine aw_aload_n dX10_expected_114 rfl ?_
            refine aw_iload dX10_expected_115 rfl ?_
            refine aw_iconst (v := 2) dX10_expected_117 (by decide) ?_
            refine ap_callVi kv_X10_102 ko_X10_booking (c_X10_booking_2 hn h5 (by omega)) dX10_expected_118 e_63 (l_63 hn) rfl rfl rfl rfl (ble' rfl) (by decide) ?_
            refine aw_iload_n dX10_expected_121 rfl ?_
            refine aw_icmp_ne 129 dX10_expected_122 (by decide) (fun c122 => ?_) (fun c122 => ?_)
            · refine aw_iconst (v := 0) dX10_expected_129 (by decide) ?_
              refine aw_istore (lo' := [_, _, _, _, _, _, _, _, some (.int _)]) dX10_expected_130 (by decide) rfl ?_
              refine aw_iload dX10_expected_132 rfl ?_
              refine aw_iload dX10_expected_134 rfl ?_
              refine aw_if_eq 160 dX10_expected_136 (by decide) (fun q => absurd q (by decide)) (fun _ => ?_)
              refine aw_iload_n dX10_expected_139 rfl ?_
              refine aw_if_eq 151 dX10_expected_140 (by decide) (fun c140 => ?_) (fun c140 => ?_)
              · refine aw_iload dX10_expected_151 rfl ?_
                refine aw_if_eq 160 dX10_expected_153 (by decide) (fun _ => ?_) (fun q => absurd q (by decide))
                refine aw_iconst (v := 0) dX10_expected_160 (by decide) ?_
                refine aw_iadd dX10_expected_161 ?_
                refine aw_istore (lo' := [_, _, _, _, some (.int _), _, _, _, _]) dX10_expected_162 (by decide) rfl ?_
                refine aw_iinc (lo' := [_, _, _, _, _, some (.int _), _, _, _]) dX10_expected_164 rfl (by decide) rfl ?_
                refine aw_goto 43 dX10_expected_167 (by decide) ?_
                refine aw_lo2 (lo' := [some (.ref 63), some (.int c), some (.int d), some (.int e), some (.int _), some (.int _), none, none, none]) ⟨rfl, rfl, rfl, rfl, rfl, rfl, trivial⟩ ?_
                exact ih (k + 1) _ _ (by omega) (by omega) (by rw [h5]; exact inc1 k) (by rw [h4]; simp [cnt, exB, inc1, nI_1, c56, c84, c111, n111, c122, c140])
              · refine aw_iload dX10_expected_143 rfl ?_
                refine aw_if_eq 160 dX10_expected_145 (by decide) (fun _ => ?_) (fun q => absurd q (by decide))
                refine aw_iconst (v := 0) dX10_expected_160 (by decide) ?_
                refine aw_iadd dX10_expected_161 ?_
                refine aw_istore (lo' := [_, _, _, _, some (.int _), _, _, _, _]) dX10_expected_162 (by decide) rfl ?_
                refine aw_iinc (lo' := [_, _, _, _, _, some (.int _), _, _, _]) dX10_expected_164 rfl (by decide) rfl ?_
                refine aw_goto 43 dX10_expected_167 (by decide) ?_
                refine aw_lo2 (lo' := [some (.ref 63), some (.int c), some (.int d), some (.int e), some (.int _), some (.int _), none, none, none]) ⟨rfl, rfl, rfl, rfl, rfl, rfl, trivial⟩ ?_
                exact ih (k + 1) _ _ (by omega) (by omega) (by rw [h5]; exact inc1 k) (by rw [h4]; simp [cnt, exB, inc1, nI_1, c56, c84, c111, n111, c122, c140])
            · refine aw_iconst (v := 1) dX10_expected_125 (by decide) ?_
              refine aw_goto 130 dX10_expected_126 (by decide) ?_
              refine aw_istore (lo' := [_, _, _, _, _, _, _, _, some (.int _)]) dX10_expected_130 (by decide) rfl ?_
              refine aw_iload dX10_expected_132 rfl ?_
              refine aw_iload dX10_expected_134 rfl ?_
              refine aw_if_eq 160 dX10_expected_136 (by decide) (fun q => absurd q (by decide)) (fun _ => ?_)
              refine aw_iload_n dX10_expected_139 rfl ?_
              refine aw_if_eq 151 dX10_expected_140 (by decide) (fun c140 => ?_) (fun c140 => ?_)
              · refine aw_iload dX10_expected_151 rfl ?_
                refine aw_if_eq 160 dX10_expected_153 (by decide) (fun _ => ?_) (fun q => absurd q (by decide))
                refine aw_iconst (v := 0) dX10_expected_160 (by decide) ?_
                refine aw_iadd dX10_expected_161 ?_
                refine aw_istore (lo' := [_, _, _, _, some (.int _), _, _, _, _]) dX10_expected_162 (by decide) rfl ?_
                refine aw_iinc (lo' := [_, _, _, _, _, some (.int _), _, _, _]) dX10_expected_164 rfl (by decide) rfl ?_
                refine aw_goto 43 dX10_expected_167 (by decide) ?_
                refine aw_lo2 (lo' := [some (.ref 63), some (.int c), some (.int d), some (.int e), some (.int _), some (.int _), none, none, none]) ⟨rfl, rfl, rfl, rfl, rfl, rfl, trivial⟩ ?_
                exact ih (k + 1) _ _ (by omega) (by omega) (by rw [h5]; exact inc1 k) (by rw [h4]; simp [cnt, exB, inc1, nI_1, c56, c84, c111, n111, c122, c140])
              · refine aw_iload dX10_expected_143 rfl ?_
                refine aw_if_eq 160 dX10_expected_145 (by decide) (fun q => absurd q (by decide)) (fun _ => ?_)
                refine aw_goto 156 dX10_expected_148 (by decide) ?_
                refine aw_iconst (v := 1) dX10_expected_156 (by decide) ?_
                refine aw_goto 161 dX10_expected_157 (by decide) ?_
                refine aw_iadd dX10_expected_161 ?_
                refine aw_istore (lo' := [_, _, _, _, some (.int _), _, _, _, _]) dX10_expected_162 (by decide) rfl ?_
                refine aw_iinc (lo' := [_, _, _, _, _, some (.int _), _, _, _]) dX10_expected_164 rfl (by decide) rfl ?_
                refine aw_goto 43 dX10_expected_167 (by decide) ?_
                refine aw_lo2 (lo' := [some (.ref 63), some (.int c), some (.int d), some (.int e), some (.int _), some (.int _), none, none, none]) ⟨rfl, rfl, rfl, rfl, rfl, rfl, trivial⟩ ?_
                exact ih (k + 1) _ _ (by omega) (by omega) (by rw [h5]; exact inc1 k) (by rw [h4]; simp [cnt, exB, inc1, nI_1, c56, c84, c111, n111, c122, c140])
        · refine aw_aload_n dX10_expected_87 rfl ?_
          refine aw_iload dX10_expected_88 rfl ?_
          refine aw_iconst (v := 1) dX10_expected_90 (by decide) ?_
          refine ap_callVi kv_X10_102 ko_X10_booking (c_X10_booking_1 hn h5 (by omega)) dX10_expected_91 e_63 (l_63 hn) rfl rfl rfl rfl (ble' rfl) (by decide) ?_
          refine aw_iload_n dX10_expected_94 rfl ?_
          refine aw_icmp_ne 102 dX10_expected_95 (by decide) (fun c95 => ?_) (fun c95 => ?_)
          · refine aw_iconst (v := 0) dX10_expected_102 (by decide) ?_
            refine aw_istore (lo' := [_, _, _, _, _, _, _, some (.int _), _]) dX10_expected_103 (by decide) rfl ?_
            refine aw_aload_n dX10_expected_105 rfl ?_
            refine aw_iload dX10_expected_106 rfl ?_
            refine ap_callVi kv_X10_105 ko_X10_isActive (c_X10_isActive hn h5 (by omega)) dX10_expected_108 e_63 (l_63 hn) rfl rfl rfl rfl (ble' rfl) (by decide) ?_
            refine aw_if_eq 129 dX10_expected_111 (by decide) (fun c111 => ?_) (fun c111 => ?_)
            · have n111 := bI_z.mp c111
              refine aw_iconst (v := 0) dX10_expected_129 (by decide) ?_
              refine aw_istore (lo' := [_, _, _, _, _, _, _, _, some (.int _)]) dX10_expected_130 (by decide) rfl ?_
              refine aw_iload dX10_expected_132 rfl ?_
              refine aw_iload dX10_expected_134 rfl ?_
              refine aw_if_eq 160 dX10_expected_136 (by decide) (fun q => absurd q (by decide)) (fun _ => ?_)
              refine aw_iload_n dX10_expected_139 rfl ?_
              refine aw_if_eq 151 dX10_expected_140 (by decide) (fun c140 => ?_) (fun c140 => ?_)
              · refine aw_iload dX10_expected_151 rfl ?_
                refine aw_if_eq 160 dX10_expected_153 (by decide) (fun _ => ?_) (fun q => absurd q (by decide))
                refine aw_iconst (v := 0) dX10_expected_160 (by decide) ?_
                refine aw_iadd dX10_expected_161 ?_
                refine aw_istore (lo' := [_, _, _, _, some (.int _), _, _, _, _]) dX10_expected_162 (by decide) rfl ?_
                refine aw_iinc (lo' := [_, _, _, _, _, some (.int _), _, _, _]) dX10_expected_164 rfl (by decide) rfl ?_
                refine aw_goto 43 dX10_expected_167 (by decide) ?_
                exact absurd (Or.inl c84) n111
              · refine aw_iload dX10_expected_143 rfl ?_
                refine aw_if_eq 160 dX10_expected_145 (by decide) (fun _ => ?_) (fun q => absurd q (by decide))
                refine aw_iconst (v := 0) dX10_expected_160 (by decide) ?_
                refine aw_iadd dX10_expected_161 ?_
                refine aw_istore (lo' := [_, _, _, _, some (.int _), _, _, _, _]) dX10_expected_162 (by decide) rfl ?_
                refine aw_iinc (lo' := [_, _, _, _, _, some (.int _), _, _, _]) dX10_expected_164 rfl (by decide) rfl ?_
                refine aw_goto 43 dX10_expected_167 (by decide) ?_
                exact absurd (Or.inl c84) n111
            · have n111 := bI_nz.mp c111
              refine aw_aload_n dX10_expected_114 rfl ?_
              refine aw_iload dX10_expected_115 rfl ?_
              refine aw_iconst (v := 2) dX10_expected_117 (by decide) ?_
              refine ap_callVi kv_X10_102 ko_X10_booking (c_X10_booking_2 hn h5 (by omega)) dX10_expected_118 e_63 (l_63 hn) rfl rfl rfl rfl (ble' rfl) (by decide) ?_
              refine aw_iload_n dX10_expected_121 rfl ?_
              refine aw_icmp_ne 129 dX10_expected_122 (by decide) (fun c122 => ?_) (fun c122 => ?_)
              · refine aw_iconst (v := 0) dX10_expected_129 (by decide) ?_
                refine aw_istore (lo' := [_, _, _, _, _, _, _, _, some (.int _)]) dX10_expected_130 (by decide) rfl ?_
                refine aw_iload dX10_expected_132 rfl ?_
                refine aw_iload dX10_expected_134 rfl ?_
                refine aw_if_eq 160 dX10_expected_136 (by decide) (fun q => absurd q (by decide)) (fun _ => ?_)
                refine aw_iload_n dX10_expected_139 rfl ?_
                refine aw_if_eq 151 dX10_expected_140 (by decide) (fun c140 => ?_) (fun c140 => ?_)
                · refine aw_iload dX10_expected_151 rfl ?_
                  refine aw_if_eq 160 dX10_expected_153 (by decide) (fun _ => ?_) (fun q => absurd q (by decide))
                  refine aw_iconst (v := 0) dX10_expected_160 (by decide) ?_
                  refine aw_iadd dX10_expected_161 ?_
                  refine aw_istore (lo' := [_, _, _, _, some (.int _), _, _, _, _]) dX10_expected_162 (by decide) rfl ?_
                  refine aw_iinc (lo' := [_, _, _, _, _, some (.int _), _, _, _]) dX10_expected_164 rfl (by decide) rfl ?_
                  refine aw_goto 43 dX10_expected_167 (by decide) ?_
                  refine aw_lo2 (lo' := [some (.ref 63), some (.int c), some (.int d), some (.int e), some (.int _), some (.int _), none, none, none]) ⟨rfl, rfl, rfl, rfl, rfl, rfl, trivial⟩ ?_
                  exact ih (k + 1) _ _ (by omega) (by omega) (by rw [h5]; exact inc1 k) (by rw [h4]; simp [cnt, exB, inc1, nI_1, c56, c84, c95, c111, n111, c122, c140])
                · refine aw_iload dX10_expected_143 rfl ?_
                  refine aw_if_eq 160 dX10_expected_145 (by decide) (fun _ => ?_) (fun q => absurd q (by decide))
                  refine aw_iconst (v := 0) dX10_expected_160 (by decide) ?_
                  refine aw_iadd dX10_expected_161 ?_
                  refine aw_istore (lo' := [_, _, _, _, some (.int _), _, _, _, _]) dX10_expected_162 (by decide) rfl ?_
                  refine aw_iinc (lo' := [_, _, _, _, _, some (.int _), _, _, _]) dX10_expected_164 rfl (by decide) rfl ?_
                  refine aw_goto 43 dX10_expected_167 (by decide) ?_
                  refine aw_lo2 (lo' := [some (.ref 63), some (.int c), some (.int d), some (.int e), some (.int _), some (.int _), none, none, none]) ⟨rfl, rfl, rfl, rfl, rfl, rfl, trivial⟩ ?_
                  exact ih (k + 1) _ _ (by omega) (by omega) (by rw [h5]; exact inc1 k) (by rw [h4]; simp [cnt, exB, inc1, nI_1, c56, c84, c95, c111, n111, c122, c140])
              · refine aw_iconst (v := 1) dX10_expected_125 (by decide) ?_
                refine aw_goto 130 dX10_expected_126 (by decide) ?_
                refine aw_istore (lo' := [_, _, _, _, _, _, _, _, some (.int _)]) dX10_expected_130 (by decide) rfl ?_
                refine aw_iload dX10_expected_132 rfl ?_
                refine aw_iload dX10_expected_134 rfl ?_
                refine aw_if_eq 160 dX10_expected_136 (by decide) (fun q => absurd q (by decide)) (fun _ => ?_)
                refine aw_iload_n dX10_expected_139 rfl ?_
                refine aw_if_eq 151 dX10_expected_140 (by decide) (fun c140 => ?_) (fun c140 => ?_)
                · refine aw_iload dX10_expected_151 rfl ?_
                  refine aw_if_eq 160 dX10_expected_153 (by decide) (fun _ => ?_) (fun q => absurd q (by decide))
                  refine aw_iconst (v := 0) dX10_expected_160 (by decide) ?_
                  refine aw_iadd dX10_expected_161 ?_
                  refine aw_istore (lo' := [_, _, _, _, some (.int _), _, _, _, _]) dX10_expected_162 (by decide) rfl ?_
                  refine aw_iinc (lo' := [_, _, _, _, _, some (.int _), _, _, _]) dX10_expected_164 rfl (by decide) rfl ?_
                  refine aw_goto 43 dX10_expected_167 (by decide) ?_
                  refine aw_lo2 (lo' := [some (.ref 63), some (.int c), some (.int d), some (.int e), some (.int _), some (.int _), none, none, none]) ⟨rfl, rfl, rfl, rfl, rfl, rfl, trivial⟩ ?_
                  exact ih (k + 1) _ _ (by omega) (by omega) (by rw [h5]; exact inc1 k) (by rw [h4]; simp [cnt, exB, inc1, nI_1, c56, c84, c95, c111, n111, c122, c140])
                · refine aw_iload dX10_expected_143 rfl ?_
                  refine aw_if_eq 160 dX10_expected_145 (by decide) (fun q => absurd q (by decide)) (fun _ => ?_)
                  refine aw_goto 156 dX10_expected_148 (by decide) ?_
                  refine aw_iconst (v := 1) dX10_expected_156 (by decide) ?_
                  refine aw_goto 161 dX10_expected_157 (by decide) ?_
                  refine aw_iadd dX10_expected_161 ?_
                  refine aw_istore (lo' := [_, _, _, _, some (.int _), _, _, _, _]) dX10_expected_162 (by decide) rfl ?_
                  refine aw_iinc (lo' := [_, _, _, _, _, some (.int _), _, _, _]) dX10_expected_164 rfl (by decide) rfl ?_
                  refine aw_goto 43 dX10_expected_167 (by decide) ?_
                  refine aw_lo2 (lo' := [some (.ref 63), some (.int c), some (.int d), some (.int e), some (.int _), some (.int _), none, none, none]) ⟨rfl, rfl, rfl, rfl, rfl, rfl, trivial⟩ ?_
                  exact ih (k + 1) _ _ (by omega) (by omega) (by rw [h5]; exact inc1 k) (by rw [h4]; simp [cnt, exB, inc1, nI_1, c56, c84, c95, c111, n111, c122, c140])
          · refine aw_iconst (v := 1) dX10_expected_98 (by decide) ?_
            refine aw_goto 103 dX10_expected_99 (by decide) ?_
            refine aw_istore (lo' := [_, _, _, _, _, _, _, some (.int _), _]) dX10_expected_103 (by decide) rfl ?_
            refine aw_aload_n dX10_expected_105 rfl ?_
            refine aw_iload dX10_expected_106 rfl ?_
            refine ap_callVi kv_X10_105 ko_X10_isActive (c_X10_isActive hn h5 (by omega)) dX10_expected_108 e_63 (l_63 hn) rfl rfl rfl rfl (ble' rfl) (by decide) ?_
            refine aw_if_eq 129 dX10_expected_111 (by decide) (fun c111 => ?_) (fun c111 => ?_)
            · have n111 := bI_z.mp c111
              refine aw_iconst (v := 0) dX10_expected_129 (by decide) ?_
              refine aw_istore (lo' := [_, _, _, _, _, _, _, _, some (.int _)]) dX10_expected_130 (by decide) rfl ?_
              refine aw_iload dX10_expected_132 rfl ?_
              refine aw_iload dX10_expected_134 rfl ?_
              refine aw_if_eq 160 dX10_expected_136 (by decide) (fun q => absurd q (by decide)) (fun _ => ?_)
              refine aw_iload_n dX10_expected_139 rfl ?_
              refine aw_if_eq 151 dX10_expected_140 (by decide) (fun c140 => ?_) (fun c140 => ?_)
              · refine aw_iload dX10_expected_151 rfl ?_
                refine aw_if_eq 160 dX10_expected_153 (by decide) (fun q => absurd q (by decide)) (fun _ => ?_)
                refine aw_iconst (v := 1) dX10_expected_156 (by decide) ?_
                refine aw_goto 161 dX10_expected_157 (by decide) ?_
                refine aw_iadd dX10_expected_161 ?_
                refine aw_istore (lo' := [_, _, _, _, some (.int _), _, _, _, _]) dX10_expected_162 (by decide) rfl ?_
                refine aw_iinc (lo' := [_, _, _, _, _, some (.int _), _, _, _]) dX10_expected_164 rfl (by decide) rfl ?_
                refine aw_goto 43 dX10_expected_167 (by decide) ?_
                exact absurd (Or.inl c84) n111
              · refine aw_iload dX10_expected_143 rfl ?_
                refine aw_if_eq 160 dX10_expected_145 (by decide) (fun _ => ?_) (fun q => absurd q (by decide))
                refine aw_iconst (v := 0) dX10_expected_160 (by decide) ?_
                refine aw_iadd dX10_expected_161 ?_
                refine aw_istore (lo' := [_, _, _, _, some (.int _), _, _, _, _]) dX10_expected_162 (by decide) rfl ?_
                refine aw_iinc (lo' := [_, _, _, _, _, some (.int _), _, _, _]) dX10_expected_164 rfl (by decide) rfl ?_
                refine aw_goto 43 dX10_expected_167 (by decide) ?_
                exact absurd (Or.inl c84) n111
            · have n111 := bI_nz.mp c111
              refine aw_aload_n dX10_expected_114 rfl ?_
              refine aw_iload dX10_expected_115 rfl ?_
              refine aw_iconst (v := 2) dX10_expected_117 (by decide) ?_
              refine ap_callVi kv_X10_102 ko_X10_booking (c_X10_booking_2 hn h5 (by omega)) dX10_expected_118 e_63 (l_63 hn) rfl rfl rfl rfl (ble' rfl) (by decide) ?_
              refine aw_iload_n dX10_expected_121 rfl ?_
              refine aw_icmp_ne 129 dX10_expected_122 (by decide) (fun c122 => ?_) (fun c122 => ?_)
              · refine aw_iconst (v := 0) dX10_expected_129 (by decide) ?_
                refine aw_istore (lo' := [_, _, _, _, _, _, _, _, some (.int _)]) dX10_expected_130 (by decide) rfl ?_
                refine aw_iload dX10_expected_132 rfl ?_
                refine aw_iload dX10_expected_134 rfl ?_
                refine aw_if_eq 160 dX10_expected_136 (by decide) (fun q => absurd q (by decide)) (fun _ => ?_)
                refine aw_iload_n dX10_expected_139 rfl ?_
                refine aw_if_eq 151 dX10_expected_140 (by decide) (fun c140 => ?_) (fun c140 => ?_)
                · refine aw_iload dX10_expected_151 rfl ?_
                  refine aw_if_eq 160 dX10_expected_153 (by decide) (fun q => absurd q (by decide)) (fun _ => ?_)
                  refine aw_iconst (v := 1) dX10_expected_156 (by decide) ?_
                  refine aw_goto 161 dX10_expected_157 (by decide) ?_
                  refine aw_iadd dX10_expected_161 ?_
                  refine aw_istore (lo' := [_, _, _, _, some (.int _), _, _, _, _]) dX10_expected_162 (by decide) rfl ?_
                  refine aw_iinc (lo' := [_, _, _, _, _, some (.int _), _, _, _]) dX10_expected_164 rfl (by decide) rfl ?_
                  refine aw_goto 43 dX10_expected_167 (by decide) ?_
                  refine aw_lo2 (lo' := [some (.ref 63), some (.int c), some (.int d), some (.int e), some (.int _), some (.int _), none, none, none]) ⟨rfl, rfl, rfl, rfl, rfl, rfl, trivial⟩ ?_
                  exact ih (k + 1) _ _ (by omega) (by omega) (by rw [h5]; exact inc1 k) (by rw [h4]; simp [cnt, exB, inc1, nI_1, c56, c84, c95, c111, n111, c122, c140])
                · refine aw_iload dX10_expected_143 rfl ?_
                  refine aw_if_eq 160 dX10_expected_145 (by decide) (fun _ => ?_) (fun q => absurd q (by decide))
                  refine aw_iconst (v := 0) dX10_expected_160 (by decide) ?_
                  refine aw_iadd dX10_expected_161 ?_
                  refine aw_istore (lo' := [_, _, _, _, some (.int _), _, _, _, _]) dX10_expected_162 (by decide) rfl ?_
                  refine aw_iinc (lo' := [_, _, _, _, _, some (.int _), _, _, _]) dX10_expected_164 rfl (by decide) rfl ?_
                  refine aw_goto 43 dX10_expected_167 (by decide) ?_
                  refine aw_lo2 (lo' := [some (.ref 63), some (.int c), some (.int d), some (.int e), some (.int _), some (.int _), none, none, none]) ⟨rfl, rfl, rfl, rfl, rfl, rfl, trivial⟩ ?_
                  exact ih (k + 1) _ _ (by omega) (by omega) (by rw [h5]; exact inc1 k) (by rw [h4]; simp [cnt, exB, inc1, nI_1, c56, c84, c95, c111, n111, c122, c140])
              · refine aw_iconst (v := 1) dX10_expected_125 (by decide) ?_
                refine aw_goto 130 dX10_expected_126 (by decide) ?_
                refine aw_istore (lo' := [_, _, _, _, _, _, _, _, some (.int _)]) dX10_expected_130 (by decide) rfl ?_
                refine aw_iload dX10_expected_132 rfl ?_
                refine aw_iload dX10_expected_134 rfl ?_
                refine aw_if_eq 160 dX10_expected_136 (by decide) (fun q => absurd q (by decide)) (fun _ => ?_)
                refine aw_iload_n dX10_expected_139 rfl ?_
                refine aw_if_eq 151 dX10_expected_140 (by decide) (fun c140 => ?_) (fun c140 => ?_)
                · refine aw_iload dX10_expected_151 rfl ?_
                  refine aw_if_eq 160 dX10_expected_153 (by decide) (fun q => absurd q (by decide)) (fun _ => ?_)
                  refine aw_iconst (v := 1) dX10_expected_156 (by decide) ?_
                  refine aw_goto 161 dX10_expected_157 (by decide) ?_
                  refine aw_iadd dX10_expected_161 ?_
                  refine aw_istore (lo' := [_, _, _, _, some (.int _), _, _, _, _]) dX10_expected_162 (by decide) rfl ?_
                  refine aw_iinc (lo' := [_, _, _, _, _, some (.int _), _, _, _]) dX10_expected_164 rfl (by decide) rfl ?_
                  refine aw_goto 43 dX10_expected_167 (by decide) ?_
                  refine aw_lo2 (lo' := [some (.ref 63), some (.int c), some (.int d), some (.int e), some (.int _), some (.int _), none, none, none]) ⟨rfl, rfl, rfl, rfl, rfl, rfl, trivial⟩ ?_
                  exact ih (k + 1) _ _ (by omega) (by omega) (by rw [h5]; exact inc1 k) (by rw [h4]; simp [cnt, exB, inc1, nI_1, c56, c84, c95, c111, n111, c122, c140])
                · refine aw_iload dX10_expected_143 rfl ?_
                  refine aw_if_eq 160 dX10_expected_145 (by decide) (fun q => absurd q (by decide)) (fun _ => ?_)
                  refine aw_goto 156 dX10_expected_148 (by decide) ?_
                  refine aw_iconst (v := 1) dX10_expected_156 (by decide) ?_
                  refine aw_goto 161 dX10_expected_157 (by decide) ?_
                  refine aw_iadd dX10_expected_161 ?_
                  refine aw_istore (lo' := [_, _, _, _, some (.int _), _, _, _, _]) dX10_expected_162 (by decide) rfl ?_
                  refine aw_iinc (lo' := [_, _, _, _, _, some (.int _), _, _, _]) dX10_expected_164 rfl (by decide) rfl ?_
                  refine aw_goto 43 dX10_expected_167 (by decide) ?_
                  refine aw_lo2 (lo' := [some (.ref 63), some (.int c), some (.int d), some (.int e), some (.int _), some (.int _), none, none, none]) ⟨rfl, rfl, rfl, rfl, rfl, rfl, trivial⟩ ?_
                  exact ih (k + 1) _ _ (by omega) (by omega) (by rw [h5]; exact inc1 k) (by rw [h4]; simp [cnt, exB, inc1, nI_1, c56, c84, c95, c111, n111, c122, c140])
      · refine aw_aload_n dX10_expected_59 rfl ?_
        refine aw_iload dX10_expected_60 rfl ?_
        refine aw_iconst (v := 0) dX10_expected_62 (by decide) ?_
        refine ap_callVi kv_X10_102 ko_X10_booking (c_X10_booking_0 hn h5 (by omega)) dX10_expected_63 e_63 (l_63 hn) rfl rfl rfl rfl (ble' rfl) (by decide) ?_
        refine aw_iload_n dX10_expected_66 rfl ?_
        refine aw_icmp_ne 74 dX10_expected_67 (by decide) (fun c67 => ?_) (fun c67 => ?_)
        · refine aw_iconst (v := 0) dX10_expected_74 (by decide) ?_
          refine aw_istore (lo' := [_, _, _, _, _, _, some (.int _), _, _]) dX10_expected_75 (by decide) rfl ?_
          refine aw_aload_n dX10_expected_77 rfl ?_
          refine aw_iload dX10_expected_78 rfl ?_
          refine aw_iconst (v := 4) dX10_expected_80 (by decide) ?_
          refine ap_callVi kv_X10_102 ko_X10_booking (c_X10_booking_4 hn h5 (by omega)) dX10_expected_81 e_63 (l_63 hn) rfl rfl rfl rfl (ble' rfl) (by decide) ?_
          refine aw_if_ne 102 dX10_expected_84 (by decide) (fun c84 => ?_) (fun c84 => ?_)
          · refine aw_iconst (v := 0) dX10_expected_102 (by decide) ?_
            refine aw_istore (lo' := [_, _, _, _, _, _, _, some (.int _), _]) dX10_expected_103 (by decide) rfl ?_
            refine aw_aload_n dX10_expected_105 rfl ?_
            refine aw_iload dX10_expected_106 rfl ?_
            refine ap_callVi kv_X10_105 ko_X10_isActive (c_X10_isActive hn h5 (by omega)) dX10_expected_108 e_63 (l_63 hn) rfl rfl rfl rfl (ble' rfl) (by decide) ?_
            refine aw_if_eq 129 dX10_expected_111 (by decide) (fun c111 => ?_) (fun c111 => ?_)
            · have n111 := bI_z.mp c111
              refine aw_iconst (v := 0) dX10_expected_129 (by decide) ?_
              refine aw_istore (lo' := [_, _, _, _, _, _, _, _, some (.int _)]) dX10_expected_130 (by decide) rfl ?_
              refine aw_iload dX10_expected_132 rfl ?_
              refine aw_iload dX10_expected_134 rfl ?_
              refine aw_if_eq 160 dX10_expected_136 (by decide) (fun _ => ?_) (fun q => absurd q (by decide))
              refine aw_iconst (v := 0) dX10_expected_160 (by decide) ?_
              refine aw_iadd dX10_expected_161 ?_
              refine aw_istore (lo' := [_, _, _, _, some (.int _), _, _, _, _]) dX10_expected_162 (by decide) rfl ?_
              refine aw_iinc (lo' := [_, _, _, _, _, some (.int _), _, _, _]) dX10_expected_164 rfl (by decide) rfl ?_
              refine aw_goto 43 dX10_expected_167 (by decide) ?_
              refine aw_lo2 (lo' := [some (.ref 63), some (.int c), some (.int d), some (.int e), some (.int _), some (.int _), none, none, none]) ⟨rfl, rfl, rfl, rfl, rfl, rfl, trivial⟩ ?_
              exact ih (k + 1) _ _ (by omega) (by omega) (by rw [h5]; exact inc1 k) (by rw [h4]; simp [cnt, exB, inc1, nI_1, c56, c67, c84, c111, n111])
            · have n111 := bI_nz.mp c111
              refine aw_aload_n dX10_expected_114 rfl ?_
              refine aw_iload dX10_expected_115 rfl ?_
              refine aw_iconst (v := 2) dX10_expected_117 (by decide) ?_
              refine ap_callVi kv_X10_102 ko_X10_booking (c_X10_booking_2 hn h5 (by omega)) dX10_expected_118 e_63 (l_63 hn) rfl rfl rfl rfl (ble' rfl) (by decide) ?_
              refine aw_iload_n dX10_expected_121 rfl ?_
              refine aw_icmp_ne 129 dX10_expected_122 (by decide) (fun c122 => ?_) (fun c122 => ?_)
              · refine aw_iconst (v := 0) dX10_expected_129 (by decide) ?_
                refine aw_istore (lo' := [_, _, _, _, _, _, _, _, some (.int _)]) dX10_expected_130 (by decide) rfl ?_
                refine aw_iload dX10_expected_132 rfl ?_
                refine aw_iload dX10_expected_134 rfl ?_
                refine aw_if_eq 160 dX10_expected_136 (by decide) (fun _ => ?_) (fun q => absurd q (by decide))
                refine aw_iconst (v := 0) dX10_expected_160 (by decide) ?_
                refine aw_iadd dX10_expected_161 ?_
                refine aw_istore (lo' := [_, _, _, _, some (.int _), _, _, _, _]) dX10_expected_162 (by decide) rfl ?_
                refine aw_iinc (lo' := [_, _, _, _, _, some (.int _), _, _, _]) dX10_expected_164 rfl (by decide) rfl ?_
                refine aw_goto 43 dX10_expected_167 (by decide) ?_
                refine aw_lo2 (lo' := [some (.ref 63), some (.int c), some (.int d), some (.int e), some (.int _), some (.int _), none, none, none]) ⟨rfl, rfl, rfl, rfl, rfl, rfl, trivial⟩ ?_
                exact ih (k + 1) _ _ (by omega) (by omega) (by rw [h5]; exact inc1 k) (by rw [h4]; simp [cnt, exB, inc1, nI_1, c56, c67, c84, c111, n111, c122])
              · refine aw_iconst (v := 1) dX10_expected_125 (by decide) ?_
                refine aw_goto 130 dX10_expected_126 (by decide) ?_
                refine aw_istore (lo' := [_, _, _, _, _, _, _, _, some (.int _)]) dX10_expected_130 (by decide) rfl ?_
                refine aw_iload dX10_expected_132 rfl ?_
                refine aw_iload dX10_expected_134 rfl ?_
                refine aw_if_eq 160 dX10_expected_136 (by decide) (fun _ => ?_) (fun q => absurd q (by decide))
                refine aw_iconst (v := 0) dX10_expected_160 (by decide) ?_
                refine aw_iadd dX10_expected_161 ?_
                refine aw_istore (lo' := [_, _, _, _, some (.int _), _, _, _, _]) dX10_expected_162 (by decide) rfl ?_
                refine aw_iinc (lo' := [_, _, _, _, _, some (.int _), _, _, _]) dX10_expected_164 rfl (by decide) rfl ?_
                refine aw_goto 43 dX10_expected_167 (by decide) ?_
                refine aw_lo2 (lo' := [some (.ref 63), some (.int c), some (.int d), some (.int e), some (.int _), some (.int _), none, none, none]) ⟨rfl, rfl, rfl, rfl, rfl, rfl, trivial⟩ ?_
                exact ih (k + 1) _ _ (by omega) (by omega) (by rw [h5]; exact inc1 k) (by rw [h4]; simp [cnt, exB, inc1, nI_1, c56, c67, c84, c111, n111, c122])
          · refine aw_aload_n dX10_expected_87 rfl ?_
            refine aw_iload dX10_expected_88 rfl ?_
            refine aw_iconst (v := 1) dX10_expected_90 (by decide) ?_
            refine ap_callVi kv_X10_102 ko_X10_booking (c_X10_booking_1 hn h5 (by omega)) dX10_expected_91 e_63 (l_63 hn) rfl rfl rfl rfl (ble' rfl) (by decide) ?_
            refine aw_iload_n dX10_expected_94 rfl ?_
            refine aw_icmp_ne 102 dX10_expected_95 (by decide) (fun c95 => ?_) (fun c95 => ?_)
            · refine aw_iconst (v := 0) dX10_expected_102 (by decide) ?_
              refine aw_istore (lo' := [_, _, _, _, _, _, _, some (.int _), _]) dX10_expected_103 (by decide) rfl ?_
              refine aw_aload_n dX10_expected_105 rfl ?_
              refine aw_iload dX10_expected_106 rfl ?_
              refine ap_callVi kv_X10_105 ko_X10_isActive (c_X10_isActive hn h5 (by omega)) dX10_expected_108 e_63 (l_63 hn) rfl rfl rfl rfl (ble' rfl) (by decide) ?_
              refine aw_if_eq 129 dX10_expected_111 (by decide) (fun c111 => ?_) (fun c111 => ?_)
              · have n111 := bI_z.mp c111
                refine aw_iconst (v := 0) dX10_expected_129 (by decide) ?_
                refine aw_istore (lo' := [_, _, _, _, _, _, _, _, some (.int _)]) dX10_expected_130 (by decide) rfl ?_
                refine aw_iload dX10_expected_132 rfl ?_
                refine aw_iload dX10_expected_134 rfl ?_
                refine aw_if_eq 160 dX10_expected_136 (by decide) (fun _ => ?_) (fun q => absurd q (by decide))
                refine aw_iconst (v := 0) dX10_expected_160 (by decide) ?_
                refine aw_iadd dX10_expected_161 ?_
                refine aw_istore (lo' := [_, _, _, _, some (.int _), _, _, _, _]) dX10_expected_162 (by decide) rfl ?_
                refine aw_iinc (lo' := [_, _, _, _, _, some (.int _), _, _, _]) dX10_expected_164 rfl (by decide) rfl ?_
                refine aw_goto 43 dX10_expected_167 (by decide) ?_
                exact absurd (Or.inl c84) n111
              · have n111 := bI_nz.mp c111
                refine aw_aload_n dX10_expected_114 rfl ?_
                refine aw_iload dX10_expected_115 rfl ?_
                refine aw_iconst (v := 2) dX10_expected_117 (by decide) ?_
                refine ap_callVi kv_X10_102 ko_X10_booking (c_X10_booking_2 hn h5 (by omega)) dX10_expected_118 e_63 (l_63 hn) rfl rfl rfl rfl (ble' rfl) (by decide) ?_
                refine aw_iload_n dX10_expected_121 rfl ?_
                refine aw_icmp_ne 129 dX10_expected_122 (by decide) (fun c122 => ?_) (fun c122 => ?_)
                · refine aw_iconst (v := 0) dX10_expected_129 (by decide) ?_
                  refine aw_istore (lo' := [_, _, _, _, _, _, _, _, some (.int _)]) dX10_expected_130 (by decide) rfl ?_
                  refine aw_iload dX10_expected_132 rfl ?_
                  refine aw_iload dX10_expected_134 rfl ?_
                  refine aw_if_eq 160 dX10_expected_136 (by decide) (fun _ => ?_) (fun q => absurd q (by decide))
                  refine aw_iconst (v := 0) dX10_expected_160 (by decide) ?_
                  refine aw_iadd dX10_expected_161 ?_
                  refine aw_istore (lo' := [_, _, _, _, some (.int _), _, _, _, _]) dX10_expected_162 (by decide) rfl ?_
                  refine aw_iinc (lo' := [_, _, _, _, _, some (.int _), _, _, _]) dX10_expected_164 rfl (by decide) rfl ?_
                  refine aw_goto 43 dX10_expected_167 (by decide) ?_
                  refine aw_lo2 (lo' := [some (.ref 63), some (.int c), some (.int d), some (.int e), some (.int _), some (.int _), none, none, none]) ⟨rfl, rfl, rfl, rfl, rfl, rfl, trivial⟩ ?_
                  exact ih (k + 1) _ _ (by omega) (by omega) (by rw [h5]; exact inc1 k) (by rw [h4]; simp [cnt, exB, inc1, nI_1, c56, c67, c84, c95, c111, n111, c122])
                · refine aw_iconst (v := 1) dX10_expected_125 (by decide) ?_
                  refine aw_goto 130 dX10_expected_126 (by decide) ?_
                  refine aw_istore (lo' := [_, _, _, _, _, _, _, _, some (.int _)]) dX10_expected_130 (by decide) rfl ?_
                  refine aw_iload dX10_expected_132 rfl ?_
                  refine aw_iload dX10_expected_134 rfl ?_
                  refine aw_if_eq 160 dX10_expected_136 (by decide) (fun _ => ?_) (fun q => absurd q (by decide))
                  refine aw_iconst (v := 0) dX10_expected_160 (by decide) ?_
                  refine aw_iadd dX10_expected_161 ?_
                  refine aw_istore (lo' := [_, _, _, _, some (.int _), _, _, _, _]) dX10_expected_162 (by decide) rfl ?_
                  refine aw_iinc (lo' := [_, _, _, _, _, some (.int _), _, _, _]) dX10_expected_164 rfl (by decide) rfl ?_
                  refine aw_goto 43 dX10_expected_167 (by decide) ?_
                  refine aw_lo2 (lo' := [some (.ref 63), some (.int c), some (.int d), some (.int e), some (.int _), some (.int _), none, none, none]) ⟨rfl, rfl, rfl, rfl, rfl, rfl, trivial⟩ ?_
                  exact ih (k + 1) _ _ (by omega) (by omega) (by rw [h5]; exact inc1 k) (by rw [h4]; simp [cnt, exB, inc1, nI_1, c56, c67, c84, c95, c111, n111, c122])
            · refine aw_iconst (v := 1) dX10_expected_98 (by decide) ?_
              refine aw_goto 103 dX10_expected_99 (by decide) ?_
              refine aw_istore (lo' := [_, _, _, _, _, _, _, some (.int _), _]) dX10_expected_103 (by decide) rfl ?_
              refine aw_aload_n dX10_expected_105 rfl ?_
              refine aw_iload dX10_expected_106 rfl ?_
              refine ap_callVi kv_X10_105 ko_X10_isActive (c_X10_isActive hn h5 (by omega)) dX10_expected_108 e_63 (l_63 hn) rfl rfl rfl rfl (ble' rfl) (by decide) ?_
              refine aw_if_eq 129 dX10_expected_111 (by decide) (fun c111 => ?_) (fun c111 => ?_)
              · have n111 := bI_z.mp c111
                refine aw_iconst (v := 0) dX10_expected_129 (by decide) ?_
                refine aw_istore (lo' := [_, _, _, _, _, _, _, _, some (.int _)]) dX10_expected_130 (by decide) rfl ?_
                refine aw_iload dX10_expected_132 rfl ?_
                refine aw_iload dX10_expected_134 rfl ?_
                refine aw_if_eq 160 dX10_expected_136 (by decide) (fun _ => ?_) (fun q => absurd q (by decide))
                refine aw_iconst (v := 0) dX10_expected_160 (by decide) ?_
                refine aw_iadd dX10_expected_161 ?_
                refine aw_istore (lo' := [_, _, _, _, some (.int _), _, _, _, _]) dX10_expected_162 (by decide) rfl ?_
                refine aw_iinc (lo' := [_, _, _, _, _, some (.int _), _, _, _]) dX10_expected_164 rfl (by decide) rfl ?_
                refine aw_goto 43 dX10_expected_167 (by decide) ?_
                exact absurd (Or.inl c84) n111
              · have n111 := bI_nz.mp c111
                refine aw_aload_n dX10_expected_114 rfl ?_
                refine aw_iload dX10_expected_115 rfl ?_
                refine aw_iconst (v := 2) dX10_expected_117 (by decide) ?_
                refine ap_callVi kv_X10_102 ko_X10_booking (c_X10_booking_2 hn h5 (by omega)) dX10_expected_118 e_63 (l_63 hn) rfl rfl rfl rfl (ble' rfl) (by decide) ?_
                refine aw_iload_n dX10_expected_121 rfl ?_
                refine aw_icmp_ne 129 dX10_expected_122 (by decide) (fun c122 => ?_) (fun c122 => ?_)
                · refine aw_iconst (v := 0) dX10_expected_129 (by decide) ?_
                  refine aw_istore (lo' := [_, _, _, _, _, _, _, _, some (.int _)]) dX10_expected_130 (by decide) rfl ?_
                  refine aw_iload dX10_expected_132 rfl ?_
                  refine aw_iload dX10_expected_134 rfl ?_
                  refine aw_if_eq 160 dX10_expected_136 (by decide) (fun _ => ?_) (fun q => absurd q (by decide))
                  refine aw_iconst (v := 0) dX10_expected_160 (by decide) ?_
                  refine aw_iadd dX10_expected_161 ?_
                  refine aw_istore (lo' := [_, _, _, _, some (.int _), _, _, _, _]) dX10_expected_162 (by decide) rfl ?_
                  refine aw_iinc (lo' := [_, _, _, _, _, some (.int _), _, _, _]) dX10_expected_164 rfl (by decide) rfl ?_
                  refine aw_goto 43 dX10_expected_167 (by decide) ?_
                  refine aw_lo2 (lo' := [some (.ref 63), some (.int c), some (.int d), some (.int e), some (.int _), some (.int _), none, none, none]) ⟨rfl, rfl, rfl, rfl, rfl, rfl, trivial⟩ ?_
                  exact ih (k + 1) _ _ (by omega) (by omega) (by rw [h5]; exact inc1 k) (by rw [h4]; simp [cnt, exB, inc1, nI_1, c56, c67, c84, c95, c111, n111, c122])
                · refine aw_iconst (v := 1) dX10_expected_125 (by decide) ?_
                  refine aw_goto 130 dX10_expected_126 (by decide) ?_
                  refine aw_istore (lo' := [_, _, _, _, _, _, _, _, some (.int _)]) dX10_expected_130 (by decide) rfl ?_
                  refine aw_iload dX10_expected_132 rfl ?_
                  refine aw_iload dX10_expected_134 rfl ?_
                  refine aw_if_eq 160 dX10_expected_136 (by decide) (fun _ => ?_) (fun q => absurd q (by decide))
                  refine aw_iconst (v := 0) dX10_expected_160 (by decide) ?_
                  refine aw_iadd dX10_expected_161 ?_
                  refine aw_istore (lo' := [_, _, _, _, some (.int _), _, _, _, _]) dX10_expected_162 (by decide) rfl ?_
                  refine aw_iinc (lo' := [_, _, _, _, _, some (.int _), _, _, _]) dX10_expected_164 rfl (by decide) rfl ?_
                  refine aw_goto 43 dX10_expected_167 (by decide) ?_
                  refine aw_lo2 (lo' := [some (.ref 63), some (.int c), some (.int d), some (.int e), some (.int _), some (.int _), none, none, none]) ⟨rfl, rfl, rfl, rfl, rfl, rfl, trivial⟩ ?_
                  exact ih (k + 1) _ _ (by omega) (by omega) (by rw [h5]; exact inc1 k) (by rw [h4]; simp [cnt, exB, inc1, nI_1, c56, c67, c84, c95, c111, n111, c122])
        · refine aw_iconst (v := 1) dX10_expected_70 (by decide) ?_
          refine aw_goto 75 dX10_expected_71 (by decide) ?_
          refine aw_istore (lo' := [_, _, _, _, _, _, some (.int _), _, _]) dX10_expected_75 (by decide) rfl ?_
          refine aw_aload_n dX10_expected_77 rfl ?_
          refine aw_iload dX10_expected_78 rfl ?_
          refine aw_iconst (v := 4) dX10_expected_80 (by decide) ?_
          refine ap_callVi kv_X10_102 ko_X10_booking (c_X10_booking_4 hn h5 (by omega)) dX10_expected_81 e_63 (l_63 hn) rfl rfl rfl rfl (ble' rfl) (by decide) ?_
          refine aw_if_ne 102 dX10_expected_84 (by decide) (fun c84 => ?_) (fun c84 => ?_)
          · refine aw_iconst (v := 0) dX10_expected_102 (by decide) ?_
            refine aw_istore (lo' := [_, _, _, _, _, _, _, some (.int _), _]) dX10_expected_103 (by decide) rfl ?_
            refine aw_aload_n dX10_expected_105 rfl ?_
            refine aw_iload dX10_expected_106 rfl ?_
            refine ap_callVi kv_X10_105 ko_X10_isActive (c_X10_isActive hn h5 (by omega)) dX10_expected_108 e_63 (l_63 hn) rfl rfl rfl rfl (ble' rfl) (by decide) ?_
            refine aw_if_eq 129 dX10_expected_111 (by decide) (fun c111 => ?_) (fun c111 => ?_)
            · have n111 := bI_z.mp c111
              refine aw_iconst (v := 0) dX10_expected_129 (by decide) ?_
              refine aw_istore (lo' := [_, _, _, _, _, _, _, _, some (.int _)]) dX10_expected_130 (by decide) rfl ?_
              refine aw_iload dX10_expected_132 rfl ?_
              refine aw_iload dX10_expected_134 rfl ?_
              refine aw_if_eq 160 dX10_expected_136 (by decide) (fun q => absurd q (by decide)) (fun _ => ?_)
              refine aw_iload_n dX10_expected_139 rfl ?_
              refine aw_if_eq 151 dX10_expected_140 (by decide) (fun c140 => ?_) (fun c140 => ?_)
              · refine aw_iload dX10_expected_151 rfl ?_
                refine aw_if_eq 160 dX10_expected_153 (by decide) (fun _ => ?_) (fun q => absurd q (by decide))
                refine aw_iconst (v := 0) dX10_expected_160 (by decide) ?_
                refine aw_iadd dX10_expected_161 ?_
                refine aw_istore (lo' := [_, _, _, _, some (.int _), _, _, _, _]) dX10_expected_162 (by decide) rfl ?_
                refine aw_iinc (lo' := [_, _, _, _, _, some (.int _), _, _, _]) dX10_expected_164 rfl (by decide) rfl ?_
                refine aw_goto 43 dX10_expected_167 (by decide) ?_
                refine aw_lo2 (lo' := [some (.ref 63), some (.int c), some (.int d), some (.int e), some (.int _), some (.int _), none, none, none]) ⟨rfl, rfl, rfl, rfl, rfl, rfl, trivial⟩ ?_
                exact ih (k + 1) _ _ (by omega) (by omega) (by rw [h5]; exact inc1 k) (by rw [h4]; simp [cnt, exB, inc1, nI_1, c56, c67, c84, c111, n111, c140])
              · refine aw_iload dX10_expected_143 rfl ?_
                refine aw_if_eq 160 dX10_expected_145 (by decide) (fun _ => ?_) (fun q => absurd q (by decide))
                refine aw_iconst (v := 0) dX10_expected_160 (by decide) ?_
                refine aw_iadd dX10_expected_161 ?_
                refine aw_istore (lo' := [_, _, _, _, some (.int _), _, _, _, _]) dX10_expected_162 (by decide) rfl ?_
                refine aw_iinc (lo' := [_, _, _, _, _, some (.int _), _, _, _]) dX10_expected_164 rfl (by decide) rfl ?_
                refine aw_goto 43 dX10_expected_167 (by decide) ?_
                refine aw_lo2 (lo' := [some (.ref 63), some (.int c), some (.int d), some (.int e), some (.int _), some (.int _), none, none, none]) ⟨rfl, rfl, rfl, rfl, rfl, rfl, trivial⟩ ?_
                exact ih (k + 1) _ _ (by omega) (by omega) (by rw [h5]; exact inc1 k) (by rw [h4]; simp [cnt, exB, inc1, nI_1, c56, c67, c84, c111, n111, c140])
            · have n111 := bI_nz.mp c111
              refine aw_aload_n dX10_expected_114 rfl ?_
              refine aw_iload dX10_expected_115 rfl ?_
              refine aw_iconst (v := 2) dX10_expected_117 (by decide) ?_
              refine ap_callVi kv_X10_102 ko_X10_booking (c_X10_booking_2 hn h5 (by omega)) dX10_expected_118 e_63 (l_63 hn) rfl rfl rfl rfl (ble' rfl) (by decide) ?_
              refine aw_iload_n dX10_expected_121 rfl ?_
              refine aw_icmp_ne 129 dX10_expected_122 (by decide) (fun c122 => ?_) (fun c122 => ?_)
              · refine aw_iconst (v := 0) dX10_expected_129 (by decide) ?_
                refine aw_istore (lo' := [_, _, _, _, _, _, _, _, some (.int _)]) dX10_expected_130 (by decide) rfl ?_
                refine aw_iload dX10_expected_132 rfl ?_
                refine aw_iload dX10_expected_134 rfl ?_
                refine aw_if_eq 160 dX10_expected_136 (by decide) (fun q => absurd q (by decide)) (fun _ => ?_)
                refine aw_iload_n dX10_expected_139 rfl ?_
                refine aw_if_eq 151 dX10_expected_140 (by decide) (fun c140 => ?_) (fun c140 => ?_)
                · refine aw_iload dX10_expected_151 rfl ?_
                  refine aw_if_eq 160 dX10_expected_153 (by decide) (fun _ => ?_) (fun q => absurd q (by decide))
                  refine aw_iconst (v := 0) dX10_expected_160 (by decide) ?_
                  refine aw_iadd dX10_expected_161 ?_
                  refine aw_istore (lo' := [_, _, _, _, some (.int _), _, _, _, _]) dX10_expected_162 (by decide) rfl ?_
                  refine aw_iinc (lo' := [_, _, _, _, _, some (.int _), _, _, _]) dX10_expected_164 rfl (by decide) rfl ?_
                  refine aw_goto 43 dX10_expected_167 (by decide) ?_
                  refine aw_lo2 (lo' := [some (.ref 63), some (.int c), some (.int d), some (.int e), some (.int _), some (.int _), none, none, none]) ⟨rfl, rfl, rfl, rfl, rfl, rfl, trivial⟩ ?_
                  exact ih (k + 1) _ _ (by omega) (by omega) (by rw [h5]; exact inc1 k) (by rw [h4]; simp [cnt, exB, inc1, nI_1, c56, c67, c84, c111, n111, c122, c140])
                · refine aw_iload dX10_expected_143 rfl ?_
                  refine aw_if_eq 160 dX10_expected_145 (by decide) (fun _ => ?_) (fun q => absurd q (by decide))
                  refine aw_iconst (v := 0) dX10_expected_160 (by decide) ?_
                  refine aw_iadd dX10_expected_161 ?_
                  refine aw_istore (lo' := [_, _, _, _, some (.int _), _, _, _, _]) dX10_expected_162 (by decide) rfl ?_
                  refine aw_iinc (lo' := [_, _, _, _, _, some (.int _), _, _, _]) dX10_expected_164 rfl (by decide) rfl ?_
                  refine aw_goto 43 dX10_expected_167 (by decide) ?_
                  refine aw_lo2 (lo' := [some (.ref 63), some (.int c), some (.int d), some (.int e), some (.int _), some (.int _), none, none, none]) ⟨rfl, rfl, rfl, rfl, rfl, rfl, trivial⟩ ?_
                  exact ih (k + 1) _ _ (by omega) (by omega) (by rw [h5]; exact inc1 k) (by rw [h4]; simp [cnt, exB, inc1, nI_1, c56, c67, c84, c111, n111, c122, c140])
              · refine aw_iconst (v := 1) dX10_expected_125 (by decide) ?_
                refine aw_goto 130 dX10_expected_126 (by decide) ?_
                refine aw_istore (lo' := [_, _, _, _, _, _, _, _, some (.int _)]) dX10_expected_130 (by decide) rfl ?_
                refine aw_iload dX10_expected_132 rfl ?_
                refine aw_iload dX10_expected_134 rfl ?_
                refine aw_if_eq 160 dX10_expected_136 (by decide) (fun q => absurd q (by decide)) (fun _ => ?_)
                refine aw_iload_n dX10_expected_139 rfl ?_
                refine aw_if_eq 151 dX10_expected_140 (by decide) (fun c140 => ?_) (fun c140 => ?_)
                · refine aw_iload dX10_expected_151 rfl ?_
                  refine aw_if_eq 160 dX10_expected_153 (by decide) (fun _ => ?_) (fun q => absurd q (by decide))
                  refine aw_iconst (v := 0) dX10_expected_160 (by decide) ?_
                  refine aw_iadd dX10_expected_161 ?_
                  refine aw_istore (lo' := [_, _, _, _, some (.int _), _, _, _, _]) dX10_expected_162 (by decide) rfl ?_
                  refine aw_iinc (lo' := [_, _, _, _, _, some (.int _), _, _, _]) dX10_expected_164 rfl (by decide) rfl ?_
                  refine aw_goto 43 dX10_expected_167 (by decide) ?_
                  refine aw_lo2 (lo' := [some (.ref 63), some (.int c), some (.int d), some (.int e), some (.int _), some (.int _), none, none, none]) ⟨rfl, rfl, rfl, rfl, rfl, rfl, trivial⟩ ?_
                  exact ih (k + 1) _ _ (by omega) (by omega) (by rw [h5]; exact inc1 k) (by rw [h4]; simp [cnt, exB, inc1, nI_1, c56, c67, c84, c111, n111, c122, c140])
                · refine aw_iload dX10_expected_143 rfl ?_
                  refine aw_if_eq 160 dX10_expected_145 (by decide) (fun q => absurd q (by decide)) (fun _ => ?_)
                  refine aw_goto 156 dX10_expected_148 (by decide) ?_
                  refine aw_iconst (v := 1) dX10_expected_156 (by decide) ?_
                  refine aw_goto 161 dX10_expected_157 (by decide) ?_
                  refine aw_iadd dX10_expected_161 ?_
                  refine aw_istore (lo' := [_, _, _, _, some (.int _), _, _, _, _]) dX10_expected_162 (by decide) rfl ?_
                  refine aw_iinc (lo' := [_, _, _, _, _, some (.int _), _, _, _]) dX10_expected_164 rfl (by decide) rfl ?_
                  refine aw_goto 43 dX10_expected_167 (by decide) ?_
                  refine aw_lo2 (lo' := [some (.ref 63), some (.int c), some (.int d), some (.int e), some (.int _), some (.int _), none, none, none]) ⟨rfl, rfl, rfl, rfl, rfl, rfl, trivial⟩ ?_
                  exact ih (k + 1) _ _ (by omega) (by omega) (by rw [h5]; exact inc1 k) (by rw [h4]; simp [cnt, exB, inc1, nI_1, c56, c67, c84, c111, n111, c122, c140])
          · refine aw_aload_n dX10_expected_87 rfl ?_
            refine aw_iload dX10_expected_88 rfl ?_
            refine aw_iconst (v := 1) dX10_expected_90 (by decide) ?_
            refine ap_callVi kv_X10_102 ko_X10_booking (c_X10_booking_1 hn h5 (by omega)) dX10_expected_91 e_63 (l_63 hn) rfl rfl rfl rfl (ble' rfl) (by decide) ?_
            refine aw_iload_n dX10_expected_94 rfl ?_
            refine aw_icmp_ne 102 dX10_expected_95 (by decide) (fun c95 => ?_) (fun c95 => ?_)
            · refine aw_iconst (v := 0) dX10_expected_102 (by decide) ?_
              refine aw_istore (lo' := [_, _, _, _, _, _, _, some (.int _), _]) dX10_expected_103 (by decide) rfl ?_
              refine aw_aload_n dX10_expected_105 rfl ?_
              refine aw_iload dX10_expected_106 rfl ?_
              refine ap_callVi kv_X10_105 ko_X10_isActive (c_X10_isActive hn h5 (by omega)) dX10_expected_108 e_63 (l_63 hn) rfl rfl rfl rfl (ble' rfl) (by decide) ?_
              refine aw_if_eq 129 dX10_expected_111 (by decide) (fun c111 => ?_) (fun c111 => ?_)
              · have n111 := bI_z.mp c111
                refine aw_iconst (v := 0) dX10_expected_129 (by decide) ?_
                refine aw_istore (lo' := [_, _, _, _, _, _, _, _, some (.int _)]) dX10_expected_130 (by decide) rfl ?_
                refine aw_iload dX10_expected_132 rfl ?_
                refine aw_iload dX10_expected_134 rfl ?_
                refine aw_if_eq 160 dX10_expected_136 (by decide) (fun q => absurd q (by decide)) (fun _ => ?_)
                refine aw_iload_n dX10_expected_139 rfl ?_
                refine aw_if_eq 151 dX10_expected_140 (by decide) (fun c140 => ?_) (fun c140 => ?_)
                · refine aw_iload dX10_expected_151 rfl ?_
                  refine aw_if_eq 160 dX10_expected_153 (by decide) (fun _ => ?_) (fun q => absurd q (by decide))
                  refine aw_iconst (v := 0) dX10_expected_160 (by decide) ?_
                  refine aw_iadd dX10_expected_161 ?_
                  refine aw_istore (lo' := [_, _, _, _, some (.int _), _, _, _, _]) dX10_expected_162 (by decide) rfl ?_
                  refine aw_iinc (lo' := [_, _, _, _, _, some (.int _), _, _, _]) dX10_expected_164 rfl (by decide) rfl ?_
                  refine aw_goto 43 dX10_expected_167 (by decide) ?_
                  exact absurd (Or.inl c84) n111
                · refine aw_iload dX10_expected_143 rfl ?_
                  refine aw_if_eq 160 dX10_expected_145 (by decide) (fun _ => ?_) (fun q => absurd q (by decide))
                  refine aw_iconst (v := 0) dX10_expected_160 (by decide) ?_
                  refine aw_iadd dX10_expected_161 ?_
                  refine aw_istore (lo' := [_, _, _, _, some (.int _), _, _, _, _]) dX10_expected_162 (by decide) rfl ?_
                  refine aw_iinc (lo' := [_, _, _, _, _, some (.int _), _, _, _]) dX10_expected_164 rfl (by decide) rfl ?_
                  refine aw_goto 43 dX10_expected_167 (by decide) ?_
                  exact absurd (Or.inl c84) n111
              · have n111 := bI_nz.mp c111
                refine aw_aload_n dX10_expected_114 rfl ?_
                refine aw_iload dX10_expected_115 rfl ?_
                refine aw_iconst (v := 2) dX10_expected_117 (by decide) ?_
                refine ap_callVi kv_X10_102 ko_X10_booking (c_X10_booking_2 hn h5 (by omega)) dX10_expected_118 e_63 (l_63 hn) rfl rfl rfl rfl (ble' rfl) (by decide) ?_
                refine aw_iload_n dX10_expected_121 rfl ?_
                refine aw_icmp_ne 129 dX10_expected_122 (by decide) (fun c122 => ?_) (fun c122 => ?_)
                · refine aw_iconst (v := 0) dX10_expected_129 (by decide) ?_
                  refine aw_istore (lo' := [_, _, _, _, _, _, _, _, some (.int _)]) dX10_expected_130 (by decide) rfl ?_
                  refine aw_iload dX10_expected_132 rfl ?_
                  refine aw_iload dX10_expected_134 rfl ?_
                  refine aw_if_eq 160 dX10_expected_136 (by decide) (fun q => absurd q (by decide)) (fun _ => ?_)
                  refine aw_iload_n dX10_expected_139 rfl ?_
                  refine aw_if_eq 151 dX10_expected_140 (by decide) (fun c140 => ?_) (fun c140 => ?_)
                  · refine aw_iload dX10_expected_151 rfl ?_
                    refine aw_if_eq 160 dX10_expected_153 (by decide) (fun _ => ?_) (fun q => absurd q (by decide))
                    refine aw_iconst (v := 0) dX10_expected_160 (by decide) ?_
                    refine aw_iadd dX10_expected_161 ?_
                    refine aw_istore (lo' := [_, _, _, _, some (.int _), _, _, _, _]) dX10_expected_162 (by decide) rfl ?_
                    refine aw_iinc (lo' := [_, _, _, _, _, some (.int _), _, _, _]) dX10_expected_164 rfl (by decide) rfl ?_
                    refine aw_goto 43 dX10_expected_167 (by decide) ?_
                    refine aw_lo2 (lo' := [some (.ref 63), some (.int c), some (.int d), some (.int e), some (.int _), some (.int _), none, none, none]) ⟨rfl, rfl, rfl, rfl, rfl, rfl, trivial⟩ ?_
                    exact ih (k + 1) _ _ (by omega) (by omega) (by rw [h5]; exact inc1 k) (by rw [h4]; simp [cnt, exB, inc1, nI_1, c56, c67, c84, c95, c111, n111, c122, c140])
                  · refine aw_iload dX10_expected_143 rfl ?_
                    refine aw_if_eq 160 dX10_expected_145 (by decide) (fun _ => ?_) (fun q => absurd q (by decide))
                    refine aw_iconst (v := 0) dX10_expected_160 (by decide) ?_
                    refine aw_iadd dX10_expected_161 ?_
                    refine aw_istore (lo' := [_, _, _, _, some (.int _), _, _, _, _]) dX10_expected_162 (by decide) rfl ?_
                    refine aw_iinc (lo' := [_, _, _, _, _, some (.int _), _, _, _]) dX10_expected_164 rfl (by decide) rfl ?_
                    refine aw_goto 43 dX10_expected_167 (by decide) ?_
                    refine aw_lo2 (lo' := [some (.ref 63), some (.int c), some (.int d), some (.int e), some (.int _), some (.int _), none, none, none]) ⟨rfl, rfl, rfl, rfl, rfl, rfl, trivial⟩ ?_
                    exact ih (k + 1) _ _ (by omega) (by omega) (by rw [h5]; exact inc1 k) (by rw [h4]; simp [cnt, exB, inc1, nI_1, c56, c67, c84, c95, c111, n111, c122, c140])
                · refine aw_iconst (v := 1) dX10_expected_125 (by decide) ?_
                  refine aw_goto 130 dX10_expected_126 (by decide) ?_
                  refine aw_istore (lo' := [_, _, _, _, _, _, _, _, some (.int _)]) dX10_expected_130 (by decide) rfl ?_
                  refine aw_iload dX10_expected_132 rfl ?_
                  refine aw_iload dX10_expected_134 rfl ?_
                  refine aw_if_eq 160 dX10_expected_136 (by decide) (fun q => absurd q (by decide)) (fun _ => ?_)
                  refine aw_iload_n dX10_expected_139 rfl ?_
                  refine aw_if_eq 151 dX10_expected_140 (by decide) (fun c140 => ?_) (fun c140 => ?_)
                  · refine aw_iload dX10_expected_151 rfl ?_
                    refine aw_if_eq 160 dX10_expected_153 (by decide) (fun _ => ?_) (fun q => absurd q (by decide))
                    refine aw_iconst (v := 0) dX10_expected_160 (by decide) ?_
                    refine aw_iadd dX10_expected_161 ?_
                    refine aw_istore (lo' := [_, _, _, _, some (.int _), _, _, _, _]) dX10_expected_162 (by decide) rfl ?_
                    refine aw_iinc (lo' := [_, _, _, _, _, some (.int _), _, _, _]) dX10_expected_164 rfl (by decide) rfl ?_
                    refine aw_goto 43 dX10_expected_167 (by decide) ?_
                    refine aw_lo2 (lo' := [some (.ref 63), some (.int c), some (.int d), some (.int e), some (.int _), some (.int _), none, none, none]) ⟨rfl, rfl, rfl, rfl, rfl, rfl, trivial⟩ ?_
                    exact ih (k + 1) _ _ (by omega) (by omega) (by rw [h5]; exact inc1 k) (by rw [h4]; simp [cnt, exB, inc1, nI_1, c56, c67, c84, c95, c111, n111, c122, c140])
                  · refine aw_iload dX10_expected_143 rfl ?_
                    refine aw_if_eq 160 dX10_expected_145 (by decide) (fun q => absurd q (by decide)) (fun _ => ?_)
                    refine aw_goto 156 dX10_expected_148 (by decide) ?_
                    refine aw_iconst (v := 1) dX10_expected_156 (by decide) ?_
                    refine aw_goto 161 dX10_expected_157 (by decide) ?_
                    refine aw_iadd dX10_expected_161 ?_
                    refine aw_istore (lo' := [_, _, _, _, some (.int _), _, _, _, _]) dX10_expected_162 (by decide) rfl ?_
                    refine aw_iinc (lo' := [_, _, _, _, _, some (.int _), _, _, _]) dX10_expected_164 rfl (by decide) rfl ?_
                    refine aw_goto 43 dX10_expected_167 (by decide) ?_
                    refine aw_lo2 (lo' := [some (.ref 63), some (.int c), some (.int d), some (.int e), some (.int _), some (.int _), none, none, none]) ⟨rfl, rfl, rfl, rfl, rfl, rfl, trivial⟩ ?_
                    exact ih (k + 1) _ _ (by omega) (by omega) (by rw [h5]; exact inc1 k) (by rw [h4]; simp [cnt, exB, inc1, nI_1, c56, c67, c84, c95, c111, n111, c122, c140])
            · refine aw_iconst (v := 1) dX10_expected_98 (by decide) ?_
              refine aw_goto 103 dX10_expected_99 (by decide) ?_
              refine aw_istore (lo' := [_, _, _, _, _, _, _, some (.int _), _]) dX10_expected_103 (by decide) rfl ?_
              refine aw_aload_n dX10_expected_105 rfl ?_
              refine aw_iload dX10_expected_106 rfl ?_
              refine ap_callVi kv_X10_105 ko_X10_isActive (c_X10_isActive hn h5 (by omega)) dX10_expected_108 e_63 (l_63 hn) rfl rfl rfl rfl (ble' rfl) (by decide) ?_
              refine aw_if_eq 129 dX10_expected_111 (by decide) (fun c111 => ?_) (fun c111 => ?_)
              · have n111 := bI_z.mp c111
                refine aw_iconst (v := 0) dX10_expected_129 (by decide) ?_
                refine aw_istore (lo' := [_, _, _, _, _, _, _, _, some (.int _)]) dX10_expected_130 (by decide) rfl ?_
                refine aw_iload dX10_expected_132 rfl ?_
                refine aw_iload dX10_expected_134 rfl ?_
                refine aw_if_eq 160 dX10_expected_136 (by decide) (fun q => absurd q (by decide)) (fun _ => ?_)
                refine aw_iload_n dX10_expected_139 rfl ?_
                refine aw_if_eq 151 dX10_expected_140 (by decide) (fun c140 => ?_) (fun c140 => ?_)
                · refine aw_iload dX10_expected_151 rfl ?_
                  refine aw_if_eq 160 dX10_expected_153 (by decide) (fun q => absurd q (by decide)) (fun _ => ?_)
                  refine aw_iconst (v := 1) dX10_expected_156 (by decide) ?_
                  refine aw_goto 161 dX10_expected_157 (by decide) ?_
                  refine aw_iadd dX10_expected_161 ?_
                  refine aw_istore (lo' := [_, _, _, _, some (.int _), _, _, _, _]) dX10_expected_162 (by decide) rfl ?_
                  refine aw_iinc (lo' := [_, _, _, _, _, some (.int _), _, _, _]) dX10_expected_164 rfl (by decide) rfl ?_
                  refine aw_goto 43 dX10_expected_167 (by decide) ?_
                  exact absurd (Or.inl c84) n111
                · refine aw_iload dX10_expected_143 rfl ?_
                  refine aw_if_eq 160 dX10_expected_145 (by decide) (fun _ => ?_) (fun q => absurd q (by decide))
                  refine aw_iconst (v := 0) dX10_expected_160 (by decide) ?_
                  refine aw_iadd dX10_expected_161 ?_
                  refine aw_istore (lo' := [_, _, _, _, some (.int _), _, _, _, _]) dX10_expected_162 (by decide) rfl ?_
                  refine aw_iinc (lo' := [_, _, _, _, _, some (.int _), _, _, _]) dX10_expected_164 rfl (by decide) rfl ?_
                  refine aw_goto 43 dX10_expected_167 (by decide) ?_
                  exact absurd (Or.inl c84) n111
              · have n111 := bI_nz.mp c111
                refine aw_aload_n dX10_expected_114 rfl ?_
                refine aw_iload dX10_expected_115 rfl ?_
                refine aw_iconst (v := 2) dX10_expected_117 (by decide) ?_
                refine ap_callVi kv_X10_102 ko_X10_booking (c_X10_booking_2 hn h5 (by omega)) dX10_expected_118 e_63 (l_63 hn) rfl rfl rfl rfl (ble' rfl) (by decide) ?_
                refine aw_iload_n dX10_expected_121 rfl ?_
                refine aw_icmp_ne 129 dX10_expected_122 (by decide) (fun c122 => ?_) (fun c122 => ?_)
                · refine aw_iconst (v := 0) dX10_expected_129 (by decide) ?_
                  refine aw_istore (lo' := [_, _, _, _, _, _, _, _, some (.int _)]) dX10_expected_130 (by decide) rfl ?_
                  refine aw_iload dX10_expected_132 rfl ?_
                  refine aw_iload dX10_expected_134 rfl ?_
                  refine aw_if_eq 160 dX10_expected_136 (by decide) (fun q => absurd q (by decide)) (fun _ => ?_)
                  refine aw_iload_n dX10_expected_139 rfl ?_
                  refine aw_if_eq 151 dX10_expected_140 (by decide) (fun c140 => ?_) (fun c140 => ?_)
                  · refine aw_iload dX10_expected_151 rfl ?_
                    refine aw_if_eq 160 dX10_expected_153 (by decide) (fun q => absurd q (by decide)) (fun _ => ?_)
                    refine aw_iconst (v := 1) dX10_expected_156 (by decide) ?_
                    refine aw_goto 161 dX10_expected_157 (by decide) ?_
                    refine aw_iadd dX10_expected_161 ?_
                    refine aw_istore (lo' := [_, _, _, _, some (.int _), _, _, _, _]) dX10_expected_162 (by decide) rfl ?_
                    refine aw_iinc (lo' := [_, _, _, _, _, some (.int _), _, _, _]) dX10_expected_164 rfl (by decide) rfl ?_
                    refine aw_goto 43 dX10_expected_167 (by decide) ?_
                    refine aw_lo2 (lo' := [some (.ref 63), some (.int c), some (.int d), some (.int e), some (.int _), some (.int _), none, none, none]) ⟨rfl, rfl, rfl, rfl, rfl, rfl, trivial⟩ ?_
                    exact ih (k + 1) _ _ (by omega) (by omega) (by rw [h5]; exact inc1 k) (by rw [h4]; simp [cnt, exB, inc1, nI_1, c56, c67, c84, c95, c111, n111, c122, c140])
                  · refine aw_iload dX10_expected_143 rfl ?_
                    refine aw_if_eq 160 dX10_expected_145 (by decide) (fun _ => ?_) (fun q => absurd q (by decide))
                    refine aw_iconst (v := 0) dX10_expected_160 (by decide) ?_
                    refine aw_iadd dX10_expected_161 ?_
                    refine aw_istore (lo' := [_, _, _, _, some (.int _), _, _, _, _]) dX10_expected_162 (by decide) rfl ?_
                    refine aw_iinc (lo' := [_, _, _, _, _, some (.int _), _, _, _]) dX10_expected_164 rfl (by decide) rfl ?_
                    refine aw_goto 43 dX10_expected_167 (by decide) ?_
                    refine aw_lo2 (lo' := [some (.ref 63), some (.int c), some (.int d), some (.int e), some (.int _), some (.int _), none, none, none]) ⟨rfl, rfl, rfl, rfl, rfl, rfl, trivial⟩ ?_
                    exact ih (k + 1) _ _ (by omega) (by omega) (by rw [h5]; exact inc1 k) (by rw [h4]; simp [cnt, exB, inc1, nI_1, c56, c67, c84, c95, c111, n111, c122, c140])
                · refine aw_iconst (v := 1) dX10_expected_125 (by decide) ?_
                  refine aw_goto 130 dX10_expected_126 (by decide) ?_
                  refine aw_istore (lo' := [_, _, _, _, _, _, _, _, some (.int _)]) dX10_expected_130 (by decide) rfl ?_
                  refine aw_iload dX10_expected_132 rfl ?_
                  refine aw_iload dX10_expected_134 rfl ?_
                  refine aw_if_eq 160 dX10_expected_136 (by decide) (fun q => absurd q (by decide)) (fun _ => ?_)
                  refine aw_iload_n dX10_expected_139 rfl ?_
                  refine aw_if_eq 151 dX10_expected_140 (by decide) (fun c140 => ?_) (fun c140 => ?_)
                  · refine aw_iload dX10_expected_151 rfl ?_
                    refine aw_if_eq 160 dX10_expected_153 (by decide) (fun q => absurd q (by decide)) (fun _ => ?_)
                    refine aw_iconst (v := 1) dX10_expected_156 (by decide) ?_
                    refine aw_goto 161 dX10_expected_157 (by decide) ?_
                    refine aw_iadd dX10_expected_161 ?_
                    refine aw_istore (lo' := [_, _, _, _, some (.int _), _, _, _, _]) dX10_expected_162 (by decide) rfl ?_
                    refine aw_iinc (lo' := [_, _, _, _, _, some (.int _), _, _, _]) dX10_expected_164 rfl (by decide) rfl ?_
                    refine aw_goto 43 dX10_expected_167 (by decide) ?_
                    refine aw_lo2 (lo' := [some (.ref 63), some (.int c), some (.int d), some (.int e), some (.int _), some (.int _), none, none, none]) ⟨rfl, rfl, rfl, rfl, rfl, rfl, trivial⟩ ?_
                    exact ih (k + 1) _ _ (by omega) (by omega) (by rw [h5]; exact inc1 k) (by rw [h4]; simp [cnt, exB, inc1, nI_1, c56, c67, c84, c95, c111, n111, c122, c140])
                  · refine aw_iload dX10_expected_143 rfl ?_
                    refine aw_if_eq 160 dX10_expected_145 (by decide) (fun q => absurd q (by decide)) (fun _ => ?_)
                    refine aw_goto 156 dX10_expected_148 (by decide) ?_
                    refine aw_iconst (v := 1) dX10_expected_156 (by decide) ?_
                    refine aw_goto 161 dX10_expected_157 (by decide) ?_
                    refine aw_iadd dX10_expected_161 ?_
                    refine aw_istore (lo' := [_, _, _, _, some (.int _), _, _, _, _]) dX10_expected_162 (by decide) rfl ?_
                    refine aw_iinc (lo' := [_, _, _, _, _, some (.int _), _, _, _]) dX10_expected_164 rfl (by decide) rfl ?_
                    refine aw_goto 43 dX10_expected_167 (by decide) ?_
                    refine aw_lo2 (lo' := [some (.ref 63), some (.int c), some (.int d), some (.int e), some (.int _), some (.int _), none, none, none]) ⟨rfl, rfl, rfl, rfl, rfl, rfl, trivial⟩ ?_
                    exact ih (k + 1) _ _ (by omega) (by omega) (by rw [h5]; exact inc1 k) (by rw [h4]; simp [cnt, exB, inc1, nI_1, c56, c67, c84, c95, c111, n111, c122, c140])

def cr_expected (M : Nat → Nat → Int32) (c d e : Int32) : Nat := if ¬ (c = -1 ∨ (0 ≤ c ∧ c ≤ M 64 1 - 1)) then 1 else if ¬ (0 ≤ d ∧ d ≤ 999) then 2 else 0
set_option maxRecDepth 100000 in
set_option maxHeartbeats 4000000 in
theorem c_X10_expected {G : AG} {M : Nat → Nat → Int32} {n : Nat} (hn : 72 ≤ n) {nc ns nz nb nr tt : Nat} (hI : CR M nc ns nz nb nr tt)  (c d e : Int32) : AMet tX10_expected yX10_expected [Cond.code yX10_expected cX10_expected 9 (some .int)] [.ref 63, .int c, .int d, .int e] (wld G M) n (PR (cr_expected M c d e) (nI (cnt (exB (V M 16) (V M 17) (V M 18) (V M 20) c d e) (nbR M))) G M M n) := by
  refine am_of (lo := [_, _, _, _, _, _, _, _, _]) (by decide) rfl (fun q => by cases q) rfl rfl rfl ?_
  refine aw_aload_n dX10_expected_0 rfl ?_
  refine aw_iconst (v := 0) dX10_expected_1 (by decide) ?_
  refine aw_put fp_X10_36_m dX10_expected_2 e_63 (l_63 hn) (ble' rfl) (fun _ => ⟨rfl, rfl⟩) (hwf rfl) ?_
  obtain ⟨M', e64, e63, eRS, e4, eW⟩ : ∃ M', M 64 = M' 64 ∧ (∀ j, j ≠ 4 → M 63 j = M' 63 j) ∧ RS M M' ∧ M' 63 4 = 0 ∧ wld G (updM M 63 (upd (M 63) 4 0)) = wld G M' := ⟨_, rfl, fun j h => (if_neg h).symm, rs_1, rfl, rfl⟩
  refine aw_heq eW ?_
  rw [show cr_expected M c d e = cr_expected M' c d e from by unfold cr_expected; simp only [e64, V_eq e64, rlV_eq e64, avV_eq e64, frR_eq e64, onV_eq e64, mnV_eq e64, osV_eq e64, vaV_eq e64, nsR_eq e64, nbR_eq e64, nzR_eq e64, nrR_eq e64]]
  rw [show (nI (cnt (exB (V M 16) (V M 17) (V M 18) (V M 20) c d e) (nbR M))) = (nI (cnt (exB (V M' 16) (V M' 17) (V M' 18) (V M' 20) c d e) (nbR M'))) from by simp only [e64, V_eq e64, rlV_eq e64, avV_eq e64, frR_eq e64, onV_eq e64, mnV_eq e64, osV_eq e64, vaV_eq e64, nsR_eq e64, nbR_eq e64, nzR_eq e64, nrR_eq e64]]
  have hI' : CR M' nc ns nz nb nr tt := by unfold CR at hI ⊢; rw [← e64]; exact hI
  clear hI eW
  obtain ⟨hc, hcl, hs, hsl, hz, hzl, hb, hbl, hr, hrl, ht, htl⟩ := id hI'
  have ens : nsR M' = ns := cl_of hs (by omega)
  have enb : nbR M' = nb := cl_of hb (by omega)
  have enz : nzR M' = nz := cl_of hz (by omega)
  have enr : nrR M' = nr := cl_of hr (by omega)
  refine aw_iload_n dX10_expected_5 rfl ?_
  refine aw_iconst (v := -1) dX10_expected_6 (by decide) ?_
  refine aw_icmp_eq 24 dX10_expected_7 (by decide) (fun c7 => ?_) (fun c7 => ?_)
  · refine aw_iload_n dX10_expected_24 rfl ?_
    refine ap_callSi ks_X10_58 ko_X10_isDay (c_X10_isDay _) dX10_expected_25 rfl rfl (ble' rfl) (by decide) ?_
    refine aw_if_ne 37 dX10_expected_28 (by decide) (fun c28 => ?_) (fun c28 => ?_)
    · have n28 := bI_nz.mp c28
      refine aw_iconst (v := 0) dX10_expected_37 (by decide) ?_
      refine aw_istore (lo' := [_, _, _, _, some (.int _), _, _, _, _]) dX10_expected_38 (by decide) rfl ?_
      refine aw_iconst (v := 0) dX10_expected_40 (by decide) ?_
      refine aw_istore (lo' := [_, _, _, _, _, some (.int _), _, _, _]) dX10_expected_41 (by decide) rfl ?_
      exact lp_X10_expected hn hb hbl (fun v q => pr_ok (by rw [cr_expected, if_neg (fun q => q (Or.inl c7)), if_neg (fun q => q n28)]) (by rw [enb]; exact q) eRS e4) (nb + 1) 0 _ _ (by omega) (by omega) rfl rfl
    · have n28 := bI_z.mp c28
      refine aw_aload_n dX10_expected_31 rfl ?_
      refine aw_iconst (v := 2) dX10_expected_32 (by decide) ?_
      refine ap_callVi kv_X10_43 ko_X10_fail (c_X10_fail hn _) dX10_expected_33 e_63 (l_63 hn) rfl rfl rfl rfl (ble' rfl) (by decide) ?_
      refine aw_iret rfl dX10_expected_36 (ble' rfl) (ble' rfl) ?_
      exact pr_no (k := 1) (by rw [cr_expected, if_neg (fun q => q (Or.inl c7)), if_pos n28]) (rs_tr eRS rs_1) rfl
  · refine aw_aload_n dX10_expected_10 rfl ?_
    refine aw_iload_n dX10_expected_11 rfl ?_
    refine ap_callVi kv_X10_51 ko_X10_isClass (c_X10_isClass hn _) dX10_expected_12 e_63 (l_63 hn) rfl rfl rfl rfl (ble' rfl) (by decide) ?_
    refine aw_if_ne 24 dX10_expected_15 (by decide) (fun c15 => ?_) (fun c15 => ?_)
    · have n15 := bI_nz.mp c15
      refine aw_iload_n dX10_expected_24 rfl ?_
      refine ap_callSi ks_X10_58 ko_X10_isDay (c_X10_isDay _) dX10_expected_25 rfl rfl (ble' rfl) (by decide) ?_
      refine aw_if_ne 37 dX10_expected_28 (by decide) (fun c28 => ?_) (fun c28 => ?_)
      · have n28 := bI_nz.mp c28
        refine aw_iconst (v := 0) dX10_expected_37 (by decide) ?_
        refine aw_istore (lo' := [_, _, _, _, some (.int _), _, _, _, _]) dX10_expected_38 (by decide) rfl ?_
        refine aw_iconst (v := 0) dX10_expected_40 (by decide) ?_
        refine aw_istore (lo' := [_, _, _, _, _, some (.int _), _, _, _]) dX10_expected_41 (by decide) rfl ?_
        exact lp_X10_expected hn hb hbl (fun v q => pr_ok (by rw [cr_expected, if_neg (fun q => q (Or.inr n15)), if_neg (fun q => q n28)]) (by rw [enb]; exact q) eRS e4) (nb + 1) 0 _ _ (by omega) (by omega) rfl rfl
      · have n28 := bI_z.mp c28
        refine aw_aload_n dX10_expected_31 rfl ?_
        refine aw_iconst (v := 2) dX10_expected_32 (by decide) ?_
        refine ap_callVi kv_X10_43 ko_X10_fail (c_X10_fail hn _) dX10_expected_33 e_63 (l_63 hn) rfl rfl rfl rfl (ble' rfl) (by decide) ?_
        refine aw_iret rfl dX10_expected_36 (ble' rfl) (ble' rfl) ?_
        exact pr_no (k := 1) (by rw [cr_expected, if_neg (fun q => q (Or.inr n15)), if_pos n28]) (rs_tr eRS rs_1) rfl
    · have n15 := bI_z.mp c15
      refine aw_aload_n dX10_expected_18 rfl ?_
      refine aw_iconst (v := 1) dX10_expected_19 (by decide) ?_
      refine ap_callVi kv_X10_43 ko_X10_fail (c_X10_fail hn _) dX10_expected_20 e_63 (l_63 hn) rfl rfl rfl rfl (ble' rfl) (by decide) ?_
      refine aw_iret rfl dX10_expected_23 (ble' rfl) (ble' rfl) ?_
      exact pr_no (k := 0) (by rw [cr_expected, if_pos (fun q => q.elim c7 n15)]) (rs_tr eRS rs_1) rfl

set_option maxRecDepth 100000 in
set_option maxHeartbeats 4000000 in
theorem lp_X10_cheapestArrival {G : AG} {M : Nat → Nat → Int32} {n : Nat} (hn : 72 ≤ n) {ns : Nat} (hs : M 64 2 = nI ns) (hsl : ns ≤ 16) {nb : Nat} (hb : M 64 4 = nI nb) (hbl : nb ≤ 60) {nz : Nat} (hz : M 64 3 = nI nz) (hzl : nz ≤ 12) {tt : Nat} (ht : M 64 0 = nI tt) (htl : tt ≤ 999) {c m f l : Int32} {kc mm a b : Nat} (hk : c = nI kc) (hkc : kc < 4) (hm : m = nI mm) (hm1 : 1 ≤ mm) (hm9 : mm ≤ 28) (ha : a ≤ 999) (hb9 : b ≤ 999) (hl : l = nI b) {Po : APost} (hR : ∀ v, v = (chpN (fun i => decide (osV M ns nb nz kc c (nI i) m = 0)) (fun i => psum (fun d => sval (seasN (V M 10) (V M 11) (V M 12) c d nz) (V M 14) 20) i mm) a (b + 1 - a)).1 → Po (.inl (some (.int v))) (wld G M) n) : ∀ (j i : Nat) (x5 x6 x7 : Int32), b + 1 - (a + i) < j → i ≤ b + 1 - a → x7 = nI (a + i) → (x5, x6) = (chpN (fun i => decide (osV M ns nb nz kc c (nI i) m = 0)) (fun i => psum (fun d => sval (seasN (V M 10) (V M 11) (V M 12) c d nz) (V M 14) 20) i mm) a i) →  AW tX10_cheapestArrival (AQm tX10_cheapestArrival (Po)) C0 60 [some (.ref 63), some (.int c), some (.int m), some (.int f), some (.int l), some (.int x5), some (.int x6), some (.int x7), none] [] (wld G M) n 0 0 := by
  intro j
  induction j with
  | zero => intro i x5 x6 x7 h0; omega
  | succ j ih =>
    intro i x5 x6 x7 h0 hi h7 h56
    refine aw_iload dX10_cheapestArrival_60 rfl ?_
    refine aw_iload dX10_cheapestArrival_62 rfl ?_
    refine aw_icmp_gt 121 dX10_cheapestArrival_64 (by decide) (fun c64 => ?_) (fun c64 => ?_)
    · have n64 := Int32.not_le.mpr c64
      refine aw_iload dX10_cheapestArrival_121 rfl ?_
      refine aw_iret rfl dX10_cheapestArrival_123 (ble' rfl) (ble' rfl) ?_
      have hie : i = b + 1 - a := by have := lt_of_lt hl h7 (by omega) (by omega) c64; omega
      exact hR _ (by rw [← hie, ← h56])
    · have n64 := Int32.not_lt.mp c64
      have hlt : a + i ≤ b := le_of_nlt hl h7 (by omega) (by omega) c64
      refine aw_aload_n dX10_cheapestArrival_67 rfl ?_
      refine aw_iload_n dX10_cheapestArrival_68 rfl ?_
      refine aw_iload dX10_cheapestArrival_69 rfl ?_
      refine aw_iload_n dX10_cheapestArrival_71 rfl ?_
      refine ap_callVi kv_X10_128 ko_X10_obstacleOf (c_X10_obstacleOf hn hs hsl hb hbl hk hkc hz hzl ht htl hm hm1 hm9) dX10_cheapestArrival_72 e_63 (l_63 hn) rfl rfl rfl rfl (ble' rfl) (by decide) ?_
      refine aw_if_eq 81 dX10_cheapestArrival_75 (by decide) (fun c75 => ?_) (fun c75 => ?_)
      · refine aw_aload_n dX10_cheapestArrival_81 rfl ?_
        refine aw_iload_n dX10_cheapestArrival_82 rfl ?_
        refine aw_iload dX10_cheapestArrival_83 rfl ?_
        refine aw_iload dX10_cheapestArrival_85 rfl ?_
        refine aw_iload_n dX10_cheapestArrival_87 rfl ?_
        refine aw_iadd dX10_cheapestArrival_88 ?_
        refine ap_callVi kv_X10_131 ko_X10_pricesOf (c_X10_pricesOf hn hz hzl c (a := a + i) (b := a + i + mm) (by omega) (by omega) h7 (by rw [h7, hm]; exact nI_add (a + i) mm)) dX10_cheapestArrival_89 e_63 (l_63 hn) rfl rfl rfl rfl (ble' rfl) (by decide) ?_
        refine aw_istore (lo' := [_, _, _, _, _, _, _, _, some (.int _)]) dX10_cheapestArrival_92 (by decide) rfl ?_
        refine aw_iload dX10_cheapestArrival_94 rfl ?_
        refine aw_iconst (v := -1) dX10_cheapestArrival_96 (by decide) ?_
        refine aw_icmp_eq 107 dX10_cheapestArrival_97 (by decide) (fun c97 => ?_) (fun c97 => ?_)
        · refine aw_iload dX10_cheapestArrival_107 rfl ?_
          refine aw_istore (lo' := [_, _, _, _, _, some (.int _), _, _, _]) dX10_cheapestArrival_109 (by decide) rfl ?_
          refine aw_iload dX10_cheapestArrival_111 rfl ?_
          refine aw_istore (lo' := [_, _, _, _, _, _, some (.int _), _, _]) dX10_cheapestArrival_113 (by decide) rfl ?_
          refine aw_iinc (lo' := [_, _, _, _, _, _, _, some (.int _), _]) dX10_cheapestArrival_115 rfl (by decide) rfl ?_
          refine aw_goto 60 dX10_cheapestArrival_118 (by decide) ?_
          refine aw_lo2 (lo' := [some (.ref 63), some (.int c), some (.int m), some (.int f), some (.int l), some (.int _), some (.int _), some (.int _), none]) ⟨rfl, rfl, rfl, rfl, rfl, rfl, rfl, rfl, trivial⟩ ?_
          have hsm : psum (fun d => sval (seasN (V M 10) (V M 11) (V M 12) c d nz) (V M 14) 20) (a + i) (a + i + mm - (a + i)) = psum (fun d => sval (seasN (V M 10) (V M 11) (V M 12) c d nz) (V M 14) 20) (a + i) mm := by rw [show a + i + mm - (a + i) = mm by omega]
          exact ih (i + 1) _ _ _ (by omega) (by omega) (by rw [h7]; exact inc1 (a + i)) (by rw [h7, chpN, if_pos ⟨by simp [← h7, c75], Or.inl (by rw [← h56]; exact c97)⟩, hsm])
        · refine aw_iload dX10_cheapestArrival_100 rfl ?_
          refine aw_iload dX10_cheapestArrival_102 rfl ?_
          refine aw_icmp_ge 115 dX10_cheapestArrival_104 (by decide) (fun c104 => ?_) (fun c104 => ?_)
          · have n104 := Int32.not_lt.mpr c104
            refine aw_iinc (lo' := [_, _, _, _, _, _, _, some (.int _), _]) dX10_cheapestArrival_115 rfl (by decide) rfl ?_
            refine aw_goto 60 dX10_cheapestArrival_118 (by decide) ?_
            refine aw_lo2 (lo' := [some (.ref 63), some (.int c), some (.int m), some (.int f), some (.int l), some (.int _), some (.int _), some (.int _), none]) ⟨rfl, rfl, rfl, rfl, rfl, rfl, rfl, rfl, trivial⟩ ?_
            have hsm : psum (fun d => sval (seasN (V M 10) (V M 11) (V M 12) c d nz) (V M 14) 20) (a + i) (a + i + mm - (a + i)) = psum (fun d => sval (seasN (V M 10) (V M 11) (V M 12) c d nz) (V M 14) 20) (a + i) mm := by rw [show a + i + mm - (a + i) = mm by omega]
            rw [hsm] at n104
            exact ih (i + 1) _ _ _ (by omega) (by omega) (by rw [h7]; exact inc1 (a + i)) (by rw [h56, chpN, if_neg (by rintro ⟨-, q | q⟩; exact c97 (by rw [← h56] at q; exact q); rw [← h56] at q; exact n104 q)])
          · have n104 := Int32.not_le.mp c104
            refine aw_iload dX10_cheapestArrival_107 rfl ?_
            refine aw_istore (lo' := [_, _, _, _, _, some (.int _), _, _, _]) dX10_cheapestArrival_109 (by decide) rfl ?_
            refine aw_iload dX10_cheapestArrival_111 rfl ?_
            refine aw_istore (lo' := [_, _, _, _, _, _, some (.int _), _, _]) dX10_cheapestArrival_113 (by decide) rfl ?_
            refine aw_iinc (lo' := [_, _, _, _, _, _, _, some (.int _), _]) dX10_cheapestArrival_115 rfl (by decide) rfl ?_
            refine aw_goto 60 dX10_cheapestArrival_118 (by decide) ?_
            refine aw_lo2 (lo' := [some (.ref 63), some (.int c), some (.int m), some (.int f), some (.int l), some (.int _), some (.int _), some (.int _), none]) ⟨rfl, rfl, rfl, rfl, rfl, rfl, rfl, rfl, trivial⟩ ?_
            have hsm : psum (fun d => sval (seasN (V M 10) (V M 11) (V M 12) c d nz) (V M 14) 20) (a + i) (a + i + mm - (a + i)) = psum (fun d => sval (seasN (V M 10) (V M 11) (V M 12) c d nz) (V M 14) 20) (a + i) mm := by rw [show a + i + mm - (a + i) = mm by omega]
            rw [hsm] at n104
            exact ih (i + 1) _ _ _ (by omega) (by omega) (by rw [h7]; exact inc1 (a + i)) (by rw [h7, chpN, if_pos ⟨by simp [← h7, c75], Or.inr (by rw [← h56]; exact n104)⟩, hsm])
      · refine aw_goto 115 dX10_cheapestArrival_78 (by decide) ?_
        refine aw_iinc (lo' := [_, _, _, _, _, _, _, some (.int _), _]) dX10_cheapestArrival_115 rfl (by decide) rfl ?_
        refine aw_goto 60 dX10_cheapestArrival_118 (by decide) ?_
        refine aw_lo2 (lo' := [some (.ref 63), some (.int c), some (.int m), some (.int f), some (.int l), some (.int _), some (.int _), some (.int _), none]) ⟨rfl, rfl, rfl, rfl, rfl, rfl, rfl, rfl, trivial⟩ ?_
        exact ih (i + 1) _ _ _ (by omega) (by omega) (by rw [h7]; exact inc1 (a + i)) (by rw [h56, chpN, if_neg (by simp [← h7, c75])])

def cr_cheapestArrival (M : Nat → Nat → Int32) (c m f l : Int32) : Nat := if ¬ (0 ≤ c ∧ c ≤ M 64 1 - 1) then 1 else if ¬ ((1 ≤ m ∧ m ≤ 28) ∧ (0 ≤ f ∧ f ≤ 999) ∧ (f ≤ l ∧ l ≤ 999)) then 2 else 0
set_option maxRecDepth 100000 in
set_option maxHeartbeats 4000000 in
theorem c_X10_cheapestArrival {G : AG} {M : Nat → Nat → Int32} {n : Nat} (hn : 72 ≤ n) {nc ns nz nb nr tt : Nat} (hI : CR M nc ns nz nb nr tt)  (c m f l : Int32) : AMet tX10_cheapestArrival yX10_cheapestArrival [Cond.code yX10_cheapestArrival cX10_cheapestArrival 9 (some .int)] [.ref 63, .int c, .int m, .int f, .int l] (wld G M) n (PR (cr_cheapestArrival M c m f l) (chpN (fun i => decide (osV M (nsR M) (nbR M) (nzR M) c.toNatClampNeg c (nI i) m = 0)) (fun i => psum (fun d => sval (seasN (V M 10) (V M 11) (V M 12) c d (nzR M)) (V M 14) 20) i m.toNatClampNeg) f.toNatClampNeg (l.toNatClampNeg + 1 - f.toNatClampNeg)).1 G M M n) := by
  refine am_of (lo := [_, _, _, _, _, _, _, _, _]) (by decide) rfl (fun q => by cases q) rfl rfl rfl ?_
  refine aw_aload_n dX10_cheapestArrival_0 rfl ?_
  refine aw_iconst (v := 0) dX10_cheapestArrival_1 (by decide) ?_
  refine aw_put fp_X10_36_m dX10_cheapestArrival_2 e_63 (l_63 hn) (ble' rfl) (fun _ => ⟨rfl, rfl⟩) (hwf rfl) ?_
  obtain ⟨M', e64, e63, eRS, e4, eW⟩ : ∃ M', M 64 = M' 64 ∧ (∀ j, j ≠ 4 → M 63 j = M' 63 j) ∧ RS M M' ∧ M' 63 4 = 0 ∧ wld G (updM M 63 (upd (M 63) 4 0)) = wld G M' := ⟨_, rfl, fun j h => (if_neg h).symm, rs_1, rfl, rfl⟩
  refine aw_heq eW ?_
  rw [show cr_cheapestArrival M c m f l = cr_cheapestArrival M' c m f l from by unfold cr_cheapestArrival; simp only [e64, V_eq e64, rlV_eq e64, avV_eq e64, frR_eq e64, onV_eq e64, mnV_eq e64, osV_eq e64, vaV_eq e64, nsR_eq e64, nbR_eq e64, nzR_eq e64, nrR_eq e64]]
  rw [show (chpN (fun i => decide (osV M (nsR M) (nbR M) (nzR M) c.toNatClampNeg c (nI i) m = 0)) (fun i => psum (fun d => sval (seasN (V M 10) (V M 11) (V M 12) c d (nzR M)) (V M 14) 20) i m.toNatClampNeg) f.toNatClampNeg (l.toNatClampNeg + 1 - f.toNatClampNeg)).1 = (chpN (fun i => decide (osV M' (nsR M') (nbR M') (nzR M') c.toNatClampNeg c (nI i) m = 0)) (fun i => psum (fun d => sval (seasN (V M' 10) (V M' 11) (V M' 12) c d (nzR M')) (V M' 14) 20) i m.toNatClampNeg) f.toNatClampNeg (l.toNatClampNeg + 1 - f.toNatClampNeg)).1 from by simp only [e64, V_eq e64, rlV_eq e64, avV_eq e64, frR_eq e64, onV_eq e64, mnV_eq e64, osV_eq e64, vaV_eq e64, nsR_eq e64, nbR_eq e64, nzR_eq e64, nrR_eq e64]]
  have hI' : CR M' nc ns nz nb nr tt := by unfold CR at hI ⊢; rw [← e64]; exact hI
  clear hI eW
  obtain ⟨hc, hcl, hs, hsl, hz, hzl, hb, hbl, hr, hrl, ht, htl⟩ := id hI'
  have ens : nsR M' = ns := cl_of hs (by omega)
  have enb : nbR M' = nb := cl_of hb (by omega)
  have enz : nzR M' = nz := cl_of hz (by omega)
  have enr : nrR M' = nr := cl_of hr (by omega)
  refine aw_aload_n dX10_cheapestArrival_5 rfl ?_
  refine aw_iload_n dX10_cheapestArrival_6 rfl ?_
  refine ap_callVi kv_X10_51 ko_X10_isClass (c_X10_isClass hn _) dX10_cheapestArrival_7 e_63 (l_63 hn) rfl rfl rfl rfl (ble' rfl) (by decide) ?_
  refine aw_if_ne 19 dX10_cheapestArrival_10 (by decide) (fun c10 => ?_) (fun c10 => ?_)
  · have n10 := bI_nz.mp c10
    refine aw_iload_n dX10_cheapestArrival_19 rfl ?_
    refine ap_callSi ks_X10_125 ko_X10_isStay (c_X10_isStay _) dX10_cheapestArrival_20 rfl rfl (ble' rfl) (by decide) ?_
    refine aw_if_eq 45 dX10_cheapestArrival_23 (by decide) (fun c23 => ?_) (fun c23 => ?_)
    · have n23 := bI_z.mp c23
      refine aw_aload_n dX10_cheapestArrival_45 rfl ?_
      refine aw_iconst (v := 2) dX10_cheapestArrival_46 (by decide) ?_
      refine ap_callVi kv_X10_43 ko_X10_fail (c_X10_fail hn _) dX10_cheapestArrival_47 e_63 (l_63 hn) rfl rfl rfl rfl (ble' rfl) (by decide) ?_
      refine aw_iret rfl dX10_cheapestArrival_50 (ble' rfl) (ble' rfl) ?_
      exact pr_no (k := 1) (by rw [cr_cheapestArrival, if_neg (fun q => q n10), if_pos (fun q => n23 q.1)]) (rs_tr eRS rs_1) rfl
    · have n23 := bI_nz.mp c23
      refine aw_iload_n dX10_cheapestArrival_26 rfl ?_
      refine ap_callSi ks_X10_58 ko_X10_isDay (c_X10_isDay _) dX10_cheapestArrival_27 rfl rfl (ble' rfl) (by decide) ?_
      refine aw_if_eq 45 dX10_cheapestArrival_30 (by decide) (fun c30 => ?_) (fun c30 => ?_)
      · have n30 := bI_z.mp c30
        refine aw_aload_n dX10_cheapestArrival_45 rfl ?_
        refine aw_iconst (v := 2) dX10_cheapestArrival_46 (by decide) ?_
        refine ap_callVi kv_X10_43 ko_X10_fail (c_X10_fail hn _) dX10_cheapestArrival_47 e_63 (l_63 hn) rfl rfl rfl rfl (ble' rfl) (by decide) ?_
        refine aw_iret rfl dX10_cheapestArrival_50 (ble' rfl) (ble' rfl) ?_
        exact pr_no (k := 1) (by rw [cr_cheapestArrival, if_neg (fun q => q n10), if_pos (fun q => n30 q.2.1)]) (rs_tr eRS rs_1) rfl
      · have n30 := bI_nz.mp c30
        refine aw_iload dX10_cheapestArrival_33 rfl ?_
        refine aw_iload_n dX10_cheapestArrival_35 rfl ?_
        refine aw_sipush (v := 999) dX10_cheapestArrival_36 (by decide) ?_
        refine ap_callSi ks_X10_39 ko_X10_isBetween (c_X10_isBetween _ _ _) dX10_cheapestArrival_39 rfl rfl (ble' rfl) (by decide) ?_
        refine aw_if_ne 51 dX10_cheapestArrival_42 (by decide) (fun c42 => ?_) (fun c42 => ?_)
        · have n42 := bI_nz.mp c42
          refine aw_iconst (v := -1) dX10_cheapestArrival_51 (by decide) ?_
          refine aw_istore (lo' := [_, _, _, _, _, some (.int _), _, _, _]) dX10_cheapestArrival_52 (by decide) rfl ?_
          refine aw_iconst (v := 0) dX10_cheapestArrival_54 (by decide) ?_
          refine aw_istore (lo' := [_, _, _, _, _, _, some (.int _), _, _]) dX10_cheapestArrival_55 (by decide) rfl ?_
          refine aw_iload_n dX10_cheapestArrival_57 rfl ?_
          refine aw_istore (lo' := [_, _, _, _, _, _, _, some (.int _), _]) dX10_cheapestArrival_58 (by decide) rfl ?_
          obtain ⟨kc, hkc, hk⟩ := cls_of hc (by omega) n10
          obtain ⟨mm, hm1, hm9, hm⟩ := stay_of n23
          obtain ⟨a, ha9, hfa⟩ := day_of (show (999 : Int32) = nI 999 from rfl) (by decide) n30
          obtain ⟨b, hab, hb9, hl⟩ := rng_of hfa (by omega) (show (999 : Int32) = nI 999 from rfl) (by decide) n42
          exact lp_X10_cheapestArrival hn hs hsl hb hbl hz hzl ht htl hk (by omega) hm hm1 hm9 ha9 hb9 hl (fun v q => pr_ok (by rw [cr_cheapestArrival, if_neg (fun q => q n10), if_neg (fun q => q ⟨n23, n30, n42⟩)]) (by rw [ens, enb, enz, cl_of hfa (by omega), cl_of hl (by omega), cl_of hk (by omega), cl_of hm (by omega)]; exact q) eRS e4) 1001 0 _ _ _ (by omega) (by omega) hfa rfl
        · have n42 := bI_z.mp c42
          refine aw_aload_n dX10_cheapestArrival_45 rfl ?_
          refine aw_iconst (v := 2) dX10_cheapestArrival_46 (by decide) ?_
          refine ap_callVi kv_X10_43 ko_X10_fail (c_X10_fail hn _) dX10_cheapestArrival_47 e_63 (l_63 hn) rfl rfl rfl rfl (ble' rfl) (by decide) ?_
          refine aw_iret rfl dX10_cheapestArrival_50 (ble' rfl) (ble' rfl) ?_
          exact pr_no (k := 1) (by rw [cr_cheapestArrival, if_neg (fun q => q n10), if_pos (fun q => n42 q.2.2)]) (rs_tr eRS rs_1) rfl
  · have n10 := bI_z.mp c10
    refine aw_aload_n dX10_cheapestArrival_13 rfl ?_
    refine aw_iconst (v := 1) dX10_cheapestArrival_14 (by decide) ?_
    refine ap_callVi kv_X10_43 ko_X10_fail (c_X10_fail hn _) dX10_cheapestArrival_15 e_63 (l_63 hn) rfl rfl rfl rfl (ble' rfl) (by decide) ?_
    refine aw_iret rfl dX10_cheapestArrival_18 (ble' rfl) (ble' rfl) ?_
    exact pr_no (k := 0) (by rw [cr_cheapestArrival, if_pos n10]) (rs_tr eRS rs_1) rfl
