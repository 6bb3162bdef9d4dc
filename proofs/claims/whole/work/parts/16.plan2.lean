set_option maxRecDepth 100000 in
set_option maxHeartbeats 4000000 in
theorem lp_X3_placeStaying {G : AG} {M : Nat → Nat → Int32} {n : Nat} (hn : 72 ≤ n) {pl bu : Nat → Int32} {g o : Int32} {nb : Nat} (hb : M 15 6 = nI nb) (hbl : nb ≤ 60) (c : Int32) : ∀ (j : Nat) (k : Nat) (x3 : Int32), nb - k < j → k ≤ nb → x3 = nI k →  AW tX3_placeStaying (AQm tX3_placeStaying (PD (.inl none) (wld G (plM M (psS (M 16) (M 18) (M 20) (M 21) c (pl, bu) nb).1 (psS (M 16) (M 18) (M 20) (M 21) c (pl, bu) nb).2 g o)) n)) C0 10 [some (.ref 58), some (.int c), some (.ref 15), some (.int x3), none] [] (wld G (plM M (psS (M 16) (M 18) (M 20) (M 21) c (pl, bu) k).1 (psS (M 16) (M 18) (M 20) (M 21) c (pl, bu) k).2 g o)) n 0 0 := by
  intro j
  induction j with
  | zero => intro k x3 h1 hk h3; omega
  | succ j ih =>
    intro k x3 h1 hk h3
    refine aw_iload_n dX3_placeStaying_10 rfl ?_
    refine aw_aload_n dX3_placeStaying_11 rfl ?_
    refine aw_get fl_X3_45 dX3_placeStaying_12 ep_15 (l_15 hn) rfl ?_
    refine aw_icmp_ge 88 dX3_placeStaying_15 (by decide) (fun c15 => ?_) (fun c15 => ?_)
    · have n15 := Int32.not_lt.mpr c15
      refine aw_vret rfl dX3_placeStaying_88 (ble' rfl) (ble' rfl) ?_
      have hke : k = nb := Nat.le_antisymm hk (le_of_le hb h3 (by omega) (by omega) c15)
      subst hke
      exact pd_v rfl
    · have n15 := Int32.not_le.mp c15
      have hlt : k < nb := lt_of_nle hb h3 (by omega) (by omega) c15
      have h60 : k < 60 := by omega
      refine aw_aload_n dX3_placeStaying_18 rfl ?_
      refine aw_get fl_X3_68 dX3_placeStaying_19 ep_15 (l_15 hn) rfl ?_
      refine aw_iload_n dX3_placeStaying_22 rfl ?_
      refine aw_ialdk dX3_placeStaying_23 ep_21 (l_21 hn) h3 h60 rfl ?_
      refine aw_istore (lo' := [_, _, _, _, some (.int _)]) dX3_placeStaying_24 (by decide) rfl ?_
      refine aw_aload_n dX3_placeStaying_26 rfl ?_
      refine aw_get fl_X3_69 dX3_placeStaying_27 ep_15 (l_15 hn) rfl ?_
      refine aw_iload_n dX3_placeStaying_30 rfl ?_
      refine aw_ialdk dX3_placeStaying_31 ep_20 (l_20 hn) h3 h60 rfl ?_
      refine aw_iconst (v := 1) dX3_placeStaying_32 (by decide) ?_
      refine aw_icmp_ne 82 dX3_placeStaying_33 (by decide) (fun c33 => ?_) (fun c33 => ?_)
      · refine aw_iinc (lo' := [_, _, _, some (.int _), _]) dX3_placeStaying_82 rfl (by decide) rfl ?_
        refine aw_goto 10 dX3_placeStaying_85 (by decide) ?_
        rw [← ps_f (cl := M 16) (de := M 18) (st := M 20) (si := M 21) (c := c) (S := (pl, bu)) (k := k) (fun q => c33 q.1)]
        refine aw_lo2 (lo' := [some (.ref 58), some (.int c), some (.ref 15), some (.int _), none]) ⟨rfl, rfl, rfl, rfl, trivial⟩ ?_
        exact ih (k + 1) _ (by omega) (by omega) (by rw [h3]; exact inc1 k)
      · refine aw_aload_n dX3_placeStaying_36 rfl ?_
        refine aw_get fl_X3_72 dX3_placeStaying_37 ep_15 (l_15 hn) rfl ?_
        refine aw_iload_n dX3_placeStaying_40 rfl ?_
        refine aw_ialdk dX3_placeStaying_41 ep_16 (l_16 hn) h3 h60 rfl ?_
        refine aw_iload_n dX3_placeStaying_42 rfl ?_
        refine aw_icmp_eq 49 dX3_placeStaying_43 (by decide) (fun c43 => ?_) (fun c43 => ?_)
        · refine aw_iload dX3_placeStaying_49 rfl ?_
          refine aw_if_lt 82 dX3_placeStaying_51 (by decide) (fun c51 => ?_) (fun c51 => ?_)
          · have n51 := Int32.not_le.mpr c51
            refine aw_iinc (lo' := [_, _, _, some (.int _), _]) dX3_placeStaying_82 rfl (by decide) rfl ?_
            refine aw_goto 10 dX3_placeStaying_85 (by decide) ?_
            rw [← ps_f (cl := M 16) (de := M 18) (st := M 20) (si := M 21) (c := c) (S := (pl, bu)) (k := k) (fun q => n51 q.2.2.1)]
            refine aw_lo2 (lo' := [some (.ref 58), some (.int c), some (.ref 15), some (.int _), none]) ⟨rfl, rfl, rfl, rfl, trivial⟩ ?_
            exact ih (k + 1) _ (by omega) (by omega) (by rw [h3]; exact inc1 k)
          · have n51 := Int32.not_lt.mp c51
            refine aw_iload dX3_placeStaying_54 rfl ?_
            refine aw_bipush (v := 16) dX3_placeStaying_56 (by decide) ?_
            refine aw_icmp_ge 82 dX3_placeStaying_58 (by decide) (fun c58 => ?_) (fun c58 => ?_)
            · have n58 := Int32.not_lt.mpr c58
              refine aw_iinc (lo' := [_, _, _, some (.int _), _]) dX3_placeStaying_82 rfl (by decide) rfl ?_
              refine aw_goto 10 dX3_placeStaying_85 (by decide) ?_
              rw [← ps_f (cl := M 16) (de := M 18) (st := M 20) (si := M 21) (c := c) (S := (pl, bu)) (k := k) (fun q => n58 q.2.2.2)]
              refine aw_lo2 (lo' := [some (.ref 58), some (.int c), some (.ref 15), some (.int _), none]) ⟨rfl, rfl, rfl, rfl, trivial⟩ ?_
              exact ih (k + 1) _ (by omega) (by omega) (by rw [h3]; exact inc1 k)
            · have n58 := Int32.not_le.mp c58
              obtain ⟨m, hm0, hm⟩ := nI_of c51
              have hm16 : m < 16 := by have := lt_of_nle (b := m) (show (16 : Int32) = nI 16 from rfl) hm (by decide) hm0 c58; exact this
              refine aw_aload_n dX3_placeStaying_61 rfl ?_
              refine aw_get fl_X3_9 dX3_placeStaying_62 ep_58 (l_58 hn) rfl ?_
              refine aw_iload_n dX3_placeStaying_65 rfl ?_
              refine aw_iload dX3_placeStaying_66 rfl ?_
              refine aw_iastk dX3_placeStaying_68 ep_59 (l_59 hn) h3 h60 rfl hp59 ?_
              refine aw_aload_n dX3_placeStaying_69 rfl ?_
              refine aw_get fl_X3_15 dX3_placeStaying_70 ep_58 (l_58 hn) rfl ?_
              refine aw_iload dX3_placeStaying_73 rfl ?_
              refine aw_aload_n dX3_placeStaying_75 rfl ?_
              refine aw_get fl_X3_65 dX3_placeStaying_76 ep_15 (l_15 hn) rfl ?_
              refine aw_iload_n dX3_placeStaying_79 rfl ?_
              refine aw_ialdk dX3_placeStaying_80 ep_18 (l_18 hn) h3 h60 rfl ?_
              refine aw_iastk dX3_placeStaying_81 ep_60 (l_60 hn) hm (by omega) rfl hp60 ?_
              refine aw_iinc (lo' := [_, _, _, some (.int _), _]) dX3_placeStaying_82 rfl (by decide) rfl ?_
              refine aw_goto 10 dX3_placeStaying_85 (by decide) ?_
              have hc9 : M 20 k = 1 ∧ M 16 k = c ∧ 0 ≤ M 21 k ∧ M 21 k < 16 := ⟨c33, c43, n51, n58⟩
              have e1 : (psS (M 16) (M 18) (M 20) (M 21) c (pl, bu) (k + 1)).1 = upd (psS (M 16) (M 18) (M 20) (M 21) c (pl, bu) k).1 k (M 21 k) := by rw [ps_t hc9]
              have e2 : (psS (M 16) (M 18) (M 20) (M 21) c (pl, bu) (k + 1)).2 = upd (psS (M 16) (M 18) (M 20) (M 21) c (pl, bu) k).2 m (M 18 k) := by rw [ps_t hc9, cl_of hm (by omega)]
              rw [← e1, ← e2]
              refine aw_lo2 (lo' := [some (.ref 58), some (.int c), some (.ref 15), some (.int _), none]) ⟨rfl, rfl, rfl, rfl, trivial⟩ ?_
              exact ih (k + 1) _ (by omega) (by omega) (by rw [h3]; exact inc1 k)
        · refine aw_goto 82 dX3_placeStaying_46 (by decide) ?_
          refine aw_iinc (lo' := [_, _, _, some (.int _), _]) dX3_placeStaying_82 rfl (by decide) rfl ?_
          refine aw_goto 10 dX3_placeStaying_85 (by decide) ?_
          rw [← ps_f (cl := M 16) (de := M 18) (st := M 20) (si := M 21) (c := c) (S := (pl, bu)) (k := k) (fun q => c43 q.2.1)]
          refine aw_lo2 (lo' := [some (.ref 58), some (.int c), some (.ref 15), some (.int _), none]) ⟨rfl, rfl, rfl, rfl, trivial⟩ ?_
          exact ih (k + 1) _ (by omega) (by omega) (by rw [h3]; exact inc1 k)

set_option maxRecDepth 100000 in
set_option maxHeartbeats 4000000 in
theorem c_X3_placeStaying {G : AG} {M : Nat → Nat → Int32} {n : Nat} (hn : 72 ≤ n) {pl bu : Nat → Int32} {g o : Int32} {nb : Nat} (hb : M 15 6 = nI nb) (hbl : nb ≤ 60) (c : Int32) : AMet tX3_placeStaying yX3_placeStaying [Cond.code yX3_placeStaying cX3_placeStaying 5 none] [.ref 58, .int c] (wld G (plM M pl bu g o)) n (PD (.inl none) (wld G (plM M (psS (M 16) (M 18) (M 20) (M 21) c (pl, bu) nb).1 (psS (M 16) (M 18) (M 20) (M 21) c (pl, bu) nb).2 g o)) n) := by
  refine am_of (lo := [_, _, _, _, _]) (by decide) rfl (fun q => by cases q) rfl rfl rfl ?_
  refine aw_aload_n dX3_placeStaying_0 rfl ?_
  refine aw_get fl_X3_25 dX3_placeStaying_1 ep_58 (l_58 hn) rfl ?_
  refine aw_get fl_X3_39 dX3_placeStaying_4 ep_1 (l_1 hn) rfl ?_
  refine aw_astore_n (lo' := [_, _, some (.ref _), _, _]) dX3_placeStaying_7 (by decide) rfl ?_
  refine aw_iconst (v := 0) dX3_placeStaying_8 (by decide) ?_
  refine aw_istore_n (lo' := [_, _, _, some (.int _), _]) dX3_placeStaying_9 (by decide) rfl ?_
  exact lp_X3_placeStaying hn hb hbl c (nb + 1) 0 _ (by omega) (by omega) rfl

theorem plM_59 {M : Nat → Nat → Int32} {pl bu r : Nat → Int32} {g o : Int32} : updM (plM M pl bu g o) 59 r = plM M r bu g o := by
  funext i; unfold updM plM
  by_cases h1 : i = 59
  · subst h1; rfl
  · simp [h1]
theorem cp_fill_59 {G : AG} {M : Nat → Nat → Int32} {n : Nat} (hn : 72 ≤ n) {pl bu : Nat → Int32} {g o : Int32} (v : Int32) : AMet tJ7_fill_53178 yJ7_fill_53178 [Cond.code yJ7_fill_53178 cJ7_fill_53178 4 none] [.ref 59, .int v] (wld G (plM M pl bu g o)) n (PD (.inl none) (wld G (plM M (mapK (fun _ => v) pl 60) bu g o)) n) := by
  have q := c_fill_59 (G := G) (M := plM M pl bu g o) hn v
  rw [plM_59] at q
  exact q
theorem plM_60 {M : Nat → Nat → Int32} {pl bu r : Nat → Int32} {g o : Int32} : updM (plM M pl bu g o) 60 r = plM M pl r g o := by
  funext i; unfold updM plM
  by_cases h1 : i = 60
  · subst h1; rfl
  · simp [h1]
theorem cp_fill_60 {G : AG} {M : Nat → Nat → Int32} {n : Nat} (hn : 72 ≤ n) {pl bu : Nat → Int32} {g o : Int32} (v : Int32) : AMet tJ7_fill_53178 yJ7_fill_53178 [Cond.code yJ7_fill_53178 cJ7_fill_53178 4 none] [.ref 60, .int v] (wld G (plM M pl bu g o)) n (PD (.inl none) (wld G (plM M pl (mapK (fun _ => v) bu 16) g o)) n) := by
  have q := c_fill_60 (G := G) (M := plM M pl bu g o) hn v
  rw [plM_60] at q
  exact q
set_option maxRecDepth 100000 in
set_option maxHeartbeats 4000000 in
theorem lp_X3_make {G : AG} {M : Nat → Nat → Int32} {n : Nat} (hn : 72 ≤ n) {nb : Nat} (hb : M 15 6 = nI nb) (hbl : nb ≤ 60) {ns : Nat} (hs : M 6 2 = nI ns) (hsl : ns ≤ 16) {nz : Nat} (hz : M 9 5 = nI nz) (hzl : nz ≤ 12) (c pol : Int32) {Po : APost} : ∀ (j : Nat) (i : Nat) (x3 : Int32) (S : PlS), nb - i < j → i ≤ nb → x3 = nI i → (∀ h1, h1 = (wld G (plM M (plRun (plStep nb ns (M 16) (M 17) (M 18) (M 20) (M 7) (M 8) (fun x => sval (seasN (M 10) (M 11) (M 12) c x nz) (M 13) 1) c pol) (nb - i) S).1 (plRun (plStep nb ns (M 16) (M 17) (M 18) (M 20) (M 7) (M 8) (fun x => sval (seasN (M 10) (M 11) (M 12) c x nz) (M 13) 1) c pol) (nb - i) S).2.1 (plRun (plStep nb ns (M 16) (M 17) (M 18) (M 20) (M 7) (M 8) (fun x => sval (seasN (M 10) (M 11) (M 12) c x nz) (M 13) 1) c pol) (nb - i) S).2.2.1 (plRun (plStep nb ns (M 16) (M 17) (M 18) (M 20) (M 7) (M 8) (fun x => sval (seasN (M 10) (M 11) (M 12) c x nz) (M 13) 1) c pol) (nb - i) S).2.2.2)) → Po (.inl none) h1 n) →  AW tX3_make (AQm tX3_make (Po)) C0 33 [some (.ref 58), some (.int c), some (.int pol), some (.int x3), none, none] [] (wld G (plM M S.1 S.2.1 S.2.2.1 S.2.2.2)) n 0 0 := by
  intro j
  induction j with
  | zero => intro i x3 S h1; omega
  | succ j ih =>
    intro i x3 S h1 hki h3 hf
    refine aw_iload_n dX3_make_33 rfl ?_
    refine aw_aload_n dX3_make_34 rfl ?_
    refine aw_get fl_X3_25 dX3_make_35 ep_58 (l_58 hn) rfl ?_
    refine aw_get fl_X3_39 dX3_make_38 ep_1 (l_1 hn) rfl ?_
    refine aw_get fl_X3_45 dX3_make_41 ep_15 (l_15 hn) rfl ?_
    refine aw_icmp_ge 152 dX3_make_44 (by decide) (fun c44 => ?_) (fun c44 => ?_)
    · have n44 := Int32.not_lt.mpr c44
      refine aw_vret rfl dX3_make_152 (ble' rfl) (ble' rfl) ?_
      have hie : i = nb := Nat.le_antisymm hki (le_of_le hb h3 (by omega) (by omega) c44)
      exact hf _ (by rw [hie, Nat.sub_self]; rfl)
    · have n44 := Int32.not_le.mp c44
      have hlt : i < nb := lt_of_nle hb h3 (by omega) (by omega) c44
      refine aw_aload_n dX3_make_47 rfl ?_
      refine aw_iload_n dX3_make_48 rfl ?_
      refine ap_callVi kv_X3_50 ko_X3_nextToPlace (c_X3_nextToPlace hn hb hbl c) dX3_make_49 ep_58 (l_58 hn) rfl rfl rfl rfl (ble' rfl) (by decide) ?_
      refine aw_istore (lo' := [_, _, _, _, some (.int _), _]) dX3_make_52 (by decide) rfl ?_
      refine aw_iload dX3_make_54 rfl ?_
      refine aw_iconst (v := -1) dX3_make_56 (by decide) ?_
      refine aw_icmp_ne 64 dX3_make_57 (by decide) (fun c57 => ?_) (fun c57 => ?_)
      · obtain ⟨nx, hnb, hnx, -⟩ := (best_in (nxB (M 16) (M 20) S.1 c) (fun k b => decide (M 17 k < M 17 b)) nb).resolve_left c57
        refine aw_aload_n dX3_make_64 rfl ?_
        refine aw_iload_n dX3_make_65 rfl ?_
        refine aw_aload_n dX3_make_66 rfl ?_
        refine aw_get fl_X3_25 dX3_make_67 ep_58 (l_58 hn) rfl ?_
        refine aw_get fl_X3_39 dX3_make_70 ep_1 (l_1 hn) rfl ?_
        refine aw_get fl_X3_54 dX3_make_73 ep_15 (l_15 hn) rfl ?_
        refine aw_iload dX3_make_76 rfl ?_
        refine aw_ialdk dX3_make_78 ep_17 (l_17 hn) hnx (by omega) rfl ?_
        refine aw_iload_n dX3_make_79 rfl ?_
        refine ap_callVi kv_X3_57 ko_X3_chooseSite (c_X3_chooseSite hn hs hsl c _ pol) dX3_make_80 ep_58 (l_58 hn) rfl rfl rfl rfl (ble' rfl) (by decide) ?_
        refine aw_istore (lo' := [_, _, _, _, _, some (.int _)]) dX3_make_83 (by decide) rfl ?_
        refine aw_iload dX3_make_85 rfl ?_
        refine aw_iconst (v := -1) dX3_make_87 (by decide) ?_
        refine aw_icmp_ne 92 dX3_make_88 (by decide) (fun c88 => ?_) (fun c88 => ?_)
        · obtain ⟨ch, hcs, hch, -⟩ := (best_in (chB (M 7) (M 8) S.2.1 c (M 17 nx)) (fun k b => decide (pol = 1 ∧ S.2.1 b < S.2.1 k)) ns).resolve_left c88
          refine aw_aload_n dX3_make_92 rfl ?_
          refine aw_iload_n dX3_make_93 rfl ?_
          refine aw_aload_n dX3_make_94 rfl ?_
          refine aw_get fl_X3_15 dX3_make_95 ep_58 (l_58 hn) rfl ?_
          refine aw_iload dX3_make_98 rfl ?_
          refine aw_ialdk dX3_make_100 ep_60 (l_60 hn) hch (by omega) rfl ?_
          refine aw_aload_n dX3_make_101 rfl ?_
          refine aw_get fl_X3_25 dX3_make_102 ep_58 (l_58 hn) rfl ?_
          refine aw_get fl_X3_39 dX3_make_105 ep_1 (l_1 hn) rfl ?_
          refine aw_get fl_X3_54 dX3_make_108 ep_15 (l_15 hn) rfl ?_
          refine aw_iload dX3_make_111 rfl ?_
          refine aw_ialdk dX3_make_113 ep_17 (l_17 hn) hnx (by omega) rfl ?_
          refine ap_callVv kv_X3_61 ko_X3_countGap (c_X3_countGap hn hz hzl c _ _) dX3_make_114 ep_58 (l_58 hn) rfl rfl rfl rfl (ble' rfl) (by decide) ?_
          refine aw_aload_n dX3_make_117 rfl ?_
          refine aw_get fl_X3_9 dX3_make_118 ep_58 (l_58 hn) rfl ?_
          refine aw_iload dX3_make_121 rfl ?_
          refine aw_iload dX3_make_123 rfl ?_
          refine aw_iastk dX3_make_125 ep_59 (l_59 hn) hnx (by omega) rfl hp59 ?_
          refine aw_aload_n dX3_make_126 rfl ?_
          refine aw_get fl_X3_15 dX3_make_127 ep_58 (l_58 hn) rfl ?_
          refine aw_iload dX3_make_130 rfl ?_
          refine aw_aload_n dX3_make_132 rfl ?_
          refine aw_get fl_X3_25 dX3_make_133 ep_58 (l_58 hn) rfl ?_
          refine aw_get fl_X3_39 dX3_make_136 ep_1 (l_1 hn) rfl ?_
          refine aw_get fl_X3_65 dX3_make_139 ep_15 (l_15 hn) rfl ?_
          refine aw_iload dX3_make_142 rfl ?_
          refine aw_ialdk dX3_make_144 ep_18 (l_18 hn) hnx (by omega) rfl ?_
          refine aw_iastk dX3_make_145 ep_60 (l_60 hn) hch (by omega) rfl hp60 ?_
          refine aw_iinc (lo' := [_, _, _, some (.int _), _, _]) dX3_make_146 rfl (by decide) rfl ?_
          refine aw_goto 33 dX3_make_149 (by decide) ?_
          refine aw_lo2 (lo' := [some (.ref 58), some (.int c), some (.int pol), some (.int _), none, none]) ⟨rfl, rfl, rfl, rfl, trivial⟩ ?_
          have hst : (plStep nb ns (M 16) (M 17) (M 18) (M 20) (M 7) (M 8) (fun x => sval (seasN (M 10) (M 11) (M 12) c x nz) (M 13) 1) c pol) S = some (upd S.1 nx (nI ch), upd S.2.1 ch (M 18 nx), (if S.2.1 ch = -1 then S.2.2.1 else S.2.2.1 + (M 17 nx - S.2.1 ch)), (if S.2.1 ch = -1 then S.2.2.2 else if M 17 nx - S.2.1 ch < sval (seasN (M 10) (M 11) (M 12) c (S.2.1 ch) nz) (M 13) 1 then S.2.2.2 + (M 17 nx - S.2.1 ch) else S.2.2.2)) := by
            simp only [plStep, hnx, nI_clamp (show nx < 2 ^ 31 by omega), hch, nI_clamp (show ch < 2 ^ 31 by omega), if_neg (nI_neg1 (show nx < 2 ^ 31 by omega)), if_neg (nI_neg1 (show ch < 2 ^ 31 by omega))]
          have hrun := plRun_s (f := nb - (i + 1)) hst
          rw [show (nb - (i + 1)) + 1 = nb - i by omega] at hrun
          rw [hch]
          exact ih (i + 1) _ (upd S.1 nx (nI ch), upd S.2.1 ch (M 18 nx), _, _) (by omega) (by omega) (by rw [h3]; exact inc1 i) (fun h1 q => hf h1 (by rw [q, hrun]; rfl))
        · refine aw_vret rfl dX3_make_91 (ble' rfl) (ble' rfl) ?_
          exact hf _ (by rw [plRun_n (by rw [plStep, if_neg c57, if_pos (by rw [cl_of hnx (by omega)]; exact c88)])])
      · refine aw_iconst (v := -1) dX3_make_60 (by decide) ?_
        refine aw_goto 83 dX3_make_61 (by decide) ?_
        refine aw_istore (lo' := [_, _, _, _, _, some (.int _)]) dX3_make_83 (by decide) rfl ?_
        refine aw_iload dX3_make_85 rfl ?_
        refine aw_iconst (v := -1) dX3_make_87 (by decide) ?_
        refine aw_icmp_ne 92 dX3_make_88 (by decide) (fun q => absurd q (by decide)) (fun _ => ?_)
        refine aw_vret rfl dX3_make_91 (ble' rfl) (ble' rfl) ?_
        exact hf _ (by rw [plRun_n (by rw [plStep, if_pos c57])])

set_option maxRecDepth 100000 in
set_option maxHeartbeats 4000000 in
theorem c_X3_make {G : AG} {M : Nat → Nat → Int32} {n : Nat} (hn : 72 ≤ n) {nb : Nat} (hb : M 15 6 = nI nb) (hbl : nb ≤ 60) {ns : Nat} (hs : M 6 2 = nI ns) (hsl : ns ≤ 16) {nz : Nat} (hz : M 9 5 = nI nz) (hzl : nz ≤ 12) (c pol : Int32) : AMet tX3_make yX3_make [Cond.code yX3_make cX3_make 6 none] [.ref 58, .int c, .int pol] (wld G M) n (PD (.inl none) (wld G (plM M (plRun (plStep nb ns (M 16) (M 17) (M 18) (M 20) (M 7) (M 8) (fun x => sval (seasN (M 10) (M 11) (M 12) c x nz) (M 13) 1) c pol) nb ((psS (M 16) (M 18) (M 20) (M 21) c (mapK (fun _ => -1) (M 59) 60, mapK (fun _ => -1) (M 60) 16) nb).1, (psS (M 16) (M 18) (M 20) (M 21) c (mapK (fun _ => -1) (M 59) 60, mapK (fun _ => -1) (M 60) 16) nb).2, 0, 0)).1 (plRun (plStep nb ns (M 16) (M 17) (M 18) (M 20) (M 7) (M 8) (fun x => sval (seasN (M 10) (M 11) (M 12) c x nz) (M 13) 1) c pol) nb ((psS (M 16) (M 18) (M 20) (M 21) c (mapK (fun _ => -1) (M 59) 60, mapK (fun _ => -1) (M 60) 16) nb).1, (psS (M 16) (M 18) (M 20) (M 21) c (mapK (fun _ => -1) (M 59) 60, mapK (fun _ => -1) (M 60) 16) nb).2, 0, 0)).2.1 (plRun (plStep nb ns (M 16) (M 17) (M 18) (M 20) (M 7) (M 8) (fun x => sval (seasN (M 10) (M 11) (M 12) c x nz) (M 13) 1) c pol) nb ((psS (M 16) (M 18) (M 20) (M 21) c (mapK (fun _ => -1) (M 59) 60, mapK (fun _ => -1) (M 60) 16) nb).1, (psS (M 16) (M 18) (M 20) (M 21) c (mapK (fun _ => -1) (M 59) 60, mapK (fun _ => -1) (M 60) 16) nb).2, 0, 0)).2.2.1 (plRun (plStep nb ns (M 16) (M 17) (M 18) (M 20) (M 7) (M 8) (fun x => sval (seasN (M 10) (M 11) (M 12) c x nz) (M 13) 1) c pol) nb ((psS (M 16) (M 18) (M 20) (M 21) c (mapK (fun _ => -1) (M 59) 60, mapK (fun _ => -1) (M 60) 16) nb).1, (psS (M 16) (M 18) (M 20) (M 21) c (mapK (fun _ => -1) (M 59) 60, mapK (fun _ => -1) (M 60) 16) nb).2, 0, 0)).2.2.2)) n) := by
  refine am_of (lo := [_, _, _, _, _, _]) (by decide) rfl (fun q => by cases q) rfl rfl rfl ?_
  refine aw_heq (show wld G M = wld G (plM M (M 59) (M 60) (M 58 3) (M 58 4)) by rw [plM_id]) ?_
  refine aw_aload_n dX3_make_0 rfl ?_
  refine aw_iconst (v := 0) dX3_make_1 (by decide) ?_
  refine aw_put fp_X3_18_m dX3_make_2 ep_58 (l_58 hn) (ble' rfl) (fun _ => ⟨rfl, rfl⟩) (hp58g rfl) ?_
  refine aw_aload_n dX3_make_5 rfl ?_
  refine aw_iconst (v := 0) dX3_make_6 (by decide) ?_
  refine aw_put fp_X3_22_m dX3_make_7 ep_58 (l_58 hn) (ble' rfl) (fun _ => ⟨rfl, rfl⟩) (hp58o rfl) ?_
  refine aw_aload_n dX3_make_10 rfl ?_
  refine aw_get fl_X3_9 dX3_make_11 ep_58 (l_58 hn) rfl ?_
  refine aw_iconst (v := -1) dX3_make_14 (by decide) ?_
  refine ap_callSv ks_X3_29 ko_J7_fill_53178 (cp_fill_59 hn (-1)) dX3_make_15 rfl rfl (ble' rfl) (by decide) ?_
  refine aw_aload_n dX3_make_18 rfl ?_
  refine aw_get fl_X3_15 dX3_make_19 ep_58 (l_58 hn) rfl ?_
  refine aw_iconst (v := -1) dX3_make_22 (by decide) ?_
  refine ap_callSv ks_X3_29 ko_J7_fill_53178 (cp_fill_60 hn (-1)) dX3_make_23 rfl rfl (ble' rfl) (by decide) ?_
  refine aw_aload_n dX3_make_26 rfl ?_
  refine aw_iload_n dX3_make_27 rfl ?_
  refine ap_callVv kv_X3_35 ko_X3_placeStaying (c_X3_placeStaying hn hb hbl c) dX3_make_28 ep_58 (l_58 hn) rfl rfl rfl rfl (ble' rfl) (by decide) ?_
  refine aw_iconst (v := 0) dX3_make_31 (by decide) ?_
  refine aw_istore_n (lo' := [_, _, _, some (.int _), _, _]) dX3_make_32 (by decide) rfl ?_
  exact lp_X3_make hn hb hbl hs hsl hz hzl c pol (nb + 1) 0 _ ((psS (M 16) (M 18) (M 20) (M 21) c (mapK (fun _ => -1) (M 59) 60, mapK (fun _ => -1) (M 60) 16) nb).1, (psS (M 16) (M 18) (M 20) (M 21) c (mapK (fun _ => -1) (M 59) 60, mapK (fun _ => -1) (M 60) 16) nb).2, 0, 0) (by omega) (by omega) rfl (fun h1 q => ⟨rfl, q, rfl⟩)
