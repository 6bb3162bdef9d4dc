theorem stw_at {q : String × Nat × String × Nat} (i : Nat) (h : STW[i]? = some q) : q ∈ STW := List.mem_of_getElem? h
def thn (L : Nat) (r : Bool × (Nat → Nat → Int32) × RT) : Bool × (Nat → Nat → Int32) × RT := if r.1 = true then ((smT (r.2.1 61) L r.2.2).1, r.2.1, (smT (r.2.1 61) L r.2.2).2) else r
def stT (M : Nat → Nat → Int32) (L : Nat) (t : RT) : Bool × (Nat → Nat → Int32) × RT :=
  if isW (M 61) t 0 = true then thn L (clT M L t) else if isW (M 61) t 1 = true then thn L (siT L 17 M (stepT (M 61) L t)) else if isW (M 61) t 2 = true then thn L (szT M L t) else if isW (M 61) t 3 = true then thn L (dyT M L t) else (false, M, failT t.2.1 1 t)
def DI (M : Nat → Nat → Int32) : Prop := (∃ k, M 29 3 = nI k ∧ k ≤ 4) ∧ (∃ k, M 33 2 = nI k ∧ k ≤ 16) ∧ (∃ k, M 36 5 = nI k ∧ k ≤ 12)
/-- a draft in order, the same text, the reader within it -/
def RO (M : Nat → Nat → Int32) (L : Nat) (r : Bool × (Nat → Nat → Int32) × RT) : Prop := DI r.2.1 ∧ r.2.1 61 = M 61 ∧ r.2.2.2.2.1 ≤ L
theorem cl_ok {M : Nat → Nat → Int32} {L : Nat} {t : RT} (h : DI M) (hE : t.2.2.1 ≤ L) : RO M L (clT M L t) := by
  have e1 : (clC (M 61) L t).2.2.2.1 ≤ L := nxt_E (nxt_E (num_E (step_E hE)) (fun _ h => num_E h)) (fun _ h => num_E h)
  unfold clT
  split
  · exact ⟨h, rfl, hE⟩
  · rename_i h4
    split
    · exact ⟨h, rfl, e1⟩
    · obtain ⟨⟨k, hk, hk4⟩, h2, h3⟩ := h
      have hlt : k < 4 := lt_of_nle (show (4 : Int32) = nI 4 from rfl) hk (by decide) (by omega) h4
      exact ⟨⟨⟨k + 1, (show M 29 3 + 1 = nI (k + 1) by rw [hk]; exact nI_1 k), by omega⟩, h2, h3⟩, rfl, e1⟩
theorem ro_pick {M : Nat → Nat → Int32} {L : Nat} {p q : Prop} [Decidable p] [Decidable q] {a b c : Bool × (Nat → Nat → Int32) × RT} (ha : RO M L a) (hb : RO M L b) (hc : ¬ p → RO M L c) : RO M L (if p then a else if q then b else c) := by
  split
  · exact ha
  · split
    · exact hb
    · rename_i h _; exact hc h
theorem ro_F {M : Nat → Nat → Int32} {L : Nat} {t : RT} (h : DI M) (hE : t.2.2.1 ≤ L) : RO M L (false, M, t) := ⟨h, rfl, hE⟩
theorem ro_Z {M : Nat → Nat → Int32} {L i : Nat} {a b c d e : Int32} {t : RT} (h : DI M) (h4 : ¬ 12 ≤ M 36 5) (hE : t.2.2.1 ≤ L) : RO M L (true, addZ_d M i a b c d e, t) := by
  obtain ⟨h1, h2, ⟨k, hk, hk4⟩⟩ := h
  have hlt : k < 12 := lt_of_nle (show (12 : Int32) = nI 12 from rfl) hk (by decide) (by omega) h4
  exact ⟨⟨h1, h2, ⟨k + 1, (show M 36 5 + 1 = nI (k + 1) by rw [hk]; exact nI_1 k), by omega⟩⟩, rfl, hE⟩
theorem sz_ok {M : Nat → Nat → Int32} {L : Nat} {t : RT} (h : DI M) (hE : t.2.2.1 ≤ L) : RO M L (szT M L t) := by
  have a1 : (szA (M 61) L (M 29 3) t).2.2.2.1 ≤ L := by unfold szA; exact num_E (step_E hE)
  have a2 : (szB (M 61) L (M 29 3) t).2.2.2.1 ≤ L := by unfold szB; exact nxt_E a1 (fun _ h => num_E h)
  have a3 : (szC (M 61) L (M 29 3) t).2.2.2.1 ≤ L := by unfold szC; exact nxt_E a2 (fun _ h => num_E h)
  have a4 : (szD (M 61) L (M 29 3) t).2.2.2.1 ≤ L := by unfold szD; exact nxt_E a3 (fun _ h => num_E h)
  have e1 : (szE (M 61) L (M 29 3) t).2.2.2.1 ≤ L := by unfold szE; exact nxt_E a4 (fun _ h => num_E h)
  unfold szT
  generalize szA (M 61) L (M 29 3) t = A1
  generalize szB (M 61) L (M 29 3) t = A2
  generalize szC (M 61) L (M 29 3) t = A3
  generalize szD (M 61) L (M 29 3) t = A4
  generalize szE (M 61) L (M 29 3) t = A5 at e1 ⊢
  exact ro_pick (ro_F h hE) (ro_F h e1) (fun h4 => ro_Z h h4 e1)
theorem dy_ok {M : Nat → Nat → Int32} {L : Nat} {t : RT} (h : DI M) (hE : t.2.2.1 ≤ L) : RO M L (dyT M L t) := by
  have e1 : (numT (M 61) L 0 999 (stepT (M 61) L t)).2.2.2.1 ≤ L := num_E (step_E hE)
  unfold dyT
  split
  · exact ⟨h, rfl, e1⟩
  · exact ⟨h, rfl, e1⟩
theorem si_ok {L : Nat} : ∀ (f : Nat) {M : Nat → Nat → Int32} {t : RT}, DI M → t.2.2.1 ≤ L → RO M L (siT L f M t)
  | 0, M, t, h, hE => ⟨h, rfl, hE⟩
  | f + 1, M, t, h, hE => by
    have e1 : (numT (M 61) L 0 (M 29 3 - 1) t).2.2.2.1 ≤ L := num_E hE
    unfold siT
    split
    · exact ⟨h, rfl, e1⟩
    · split
      · exact ⟨h, rfl, e1⟩
      · rename_i h4
        obtain ⟨h1, ⟨k, hk, hk4⟩, h3⟩ := h
        have hlt : k < 16 := lt_of_nle (show (16 : Int32) = nI 16 from rfl) hk (by decide) (by omega) h4
        have hd : DI (addS_d M (M 33 2).toNatClampNeg (numT (M 61) L 0 (M 29 3 - 1) t).1) := ⟨h1, ⟨k + 1, (show M 33 2 + 1 = nI (k + 1) by rw [hk]; exact nI_1 k), by omega⟩, h3⟩
        split
        · exact si_ok f hd e1
        · exact ⟨hd, rfl, e1⟩
theorem tok_S {x : Nat → Int32} {L s : Nat} {t : RT} (h : s ≤ L) : (tokT x L s t).2.1 ≤ (tokT x L s t).2.2.1 := by
  unfold tokT
  split
  · exact Nat.le_refl _
  · split
    · exact (run_le h).1
    · split
      · exact (run_le h).1
      · exact Nat.le_succ _
theorem step_S {x : Nat → Int32} {L : Nat} {t : RT} (h : t.2.2.1 ≤ L) : (stepT x L t).2.1 ≤ (stepT x L t).2.2.1 := tok_S (run_le h).2
theorem thn_ok {M : Nat → Nat → Int32} {L : Nat} {r : Bool × (Nat → Nat → Int32) × RT} (h : RO M L r) : RO M L (thn L r) ∧ ((thn L r).1 = true → (thn L r).2.2.2.1 ≤ (thn L r).2.2.2.2.1) := by
  obtain ⟨h1, h2, h3⟩ := h
  unfold thn smT
  split
  · split
    · exact ⟨⟨h1, h2, step_E h3⟩, fun _ => step_S h3⟩
    · exact ⟨⟨h1, h2, h3⟩, fun q => by cases q⟩
  · rename_i h5
    exact ⟨⟨h1, h2, h3⟩, fun q => absurd q h5⟩
theorem st_ok {M : Nat → Nat → Int32} {L : Nat} {t : RT} (h : DI M) (hE : t.2.2.1 ≤ L) : RO M L (stT M L t) ∧ ((stT M L t).1 = true → (stT M L t).2.2.2.1 ≤ (stT M L t).2.2.2.2.1) := by
  unfold stT
  split
  · exact thn_ok (cl_ok h hE)
  · split
    · exact thn_ok (si_ok 17 h (step_E hE))
    · split
      · exact thn_ok (sz_ok h hE)
      · split
        · exact thn_ok (dy_ok h hE)
        · exact ⟨⟨h, rfl, hE⟩, fun q => by cases q⟩
set_option maxRecDepth 100000 in
set_option maxHeartbeats 4000000 in
theorem c_X6_readStatement {G : AG} {M : Nat → Nat → Int32} {n : Nat} (hn : 72 ≤ n) {L : Nat} (hL : L ≤ 500) {t : RT} (hE : t.2.2.1 ≤ L) (hS : t.2.1 ≤ t.2.2.1) (hDI : DI M) : AMet tX6_readStatement yX6_readStatement [Cond.code yX6_readStatement cX6_readStatement 1 (some .boolean)] [.ref 62] (wld G (rd M L t)) n (PD (.inl (some (.int (bI ((stT M L t).1 = true))))) (wld G (rd (stT M L t).2.1 L (stT M L t).2.2)) n) := by
  obtain ⟨⟨kc, hc, hc4⟩, ⟨ks, hs, hs4⟩, ⟨kz, hz, hz4⟩⟩ := id hDI
  refine am_of (lo := [_]) (by decide) rfl (fun q => by cases q) rfl rfl rfl ?_
  refine aw_aload_n dX6_readStatement_0 rfl ?_
  refine aw_ldcS (k := 0) (stw_at 0 rfl) dX6_readStatement_1 ?_
  refine ap_callVi kv_X6_61 ko_X6_isWord (c_X6_isWord hn hL hS hE (by decide)) dX6_readStatement_3 er_62 (l_62 hn) rfl rfl rfl rfl (ble' rfl) (by decide) ?_
  refine aw_if_eq 29 dX6_readStatement_6 (by decide) (fun c6 => ?_) (fun c6 => ?_)
  · have n6 := bI_z.mp c6
    refine aw_aload_n dX6_readStatement_29 rfl ?_
    refine aw_ldcS (k := 1) (stw_at 1 rfl) dX6_readStatement_30 ?_
    refine ap_callVi kv_X6_61 ko_X6_isWord (c_X6_isWord hn hL hS hE (by decide)) dX6_readStatement_32 er_62 (l_62 hn) rfl rfl rfl rfl (ble' rfl) (by decide) ?_
    refine aw_if_eq 58 dX6_readStatement_35 (by decide) (fun c35 => ?_) (fun c35 => ?_)
    · have n35 := bI_z.mp c35
      refine aw_aload_n dX6_readStatement_58 rfl ?_
      refine aw_ldcS (k := 2) (stw_at 2 rfl) dX6_readStatement_59 ?_
      refine ap_callVi kv_X6_61 ko_X6_isWord (c_X6_isWord hn hL hS hE (by decide)) dX6_readStatement_61 er_62 (l_62 hn) rfl rfl rfl rfl (ble' rfl) (by decide) ?_
      refine aw_if_eq 87 dX6_readStatement_64 (by decide) (fun c64 => ?_) (fun c64 => ?_)
      · have n64 := bI_z.mp c64
        refine aw_aload_n dX6_readStatement_87 rfl ?_
        refine aw_ldcS (k := 3) (stw_at 3 rfl) dX6_readStatement_88 ?_
        refine ap_callVi kv_X6_61 ko_X6_isWord (c_X6_isWord hn hL hS hE (by decide)) dX6_readStatement_90 er_62 (l_62 hn) rfl rfl rfl rfl (ble' rfl) (by decide) ?_
        refine aw_if_eq 116 dX6_readStatement_93 (by decide) (fun c93 => ?_) (fun c93 => ?_)
        · have n93 := bI_z.mp c93
          refine aw_aload_n dX6_readStatement_116 rfl ?_
          refine aw_iconst (v := 1) dX6_readStatement_117 (by decide) ?_
          refine ap_callVi kv_X6_86 ko_X6_fail (c_X6_fail (M := M) (l := nI L) (k := t.1) (s := nI t.2.1) (e := nI t.2.2.1) (v := t.2.2.2.1) (c := t.2.2.2.2.1) (p := t.2.2.2.2.2) hn _) dX6_readStatement_118 er_62 (l_62 hn) rfl rfl rfl rfl (ble' rfl) (by decide) ?_
          refine aw_zret rfl dX6_readStatement_121 rfl (ble' rfl) (ble' rfl) ?_
          exact pd_ih (by rw [stT, if_neg n6, if_neg n35, if_neg n64, if_neg n93]; rfl) (by rw [stT, if_neg n6, if_neg n35, if_neg n64, if_neg n93]; rfl)
        · have n93 := bI_nz.mp c93
          refine aw_aload_n dX6_readStatement_96 rfl ?_
          refine ap_callVi kv_X6_83 ko_X6_readDay (c_X6_readDay hn hL hE) dX6_readStatement_97 er_62 (l_62 hn) rfl rfl rfl rfl (ble' rfl) (by decide) ?_
          refine aw_if_eq 114 dX6_readStatement_100 (by decide) (fun c100 => ?_) (fun c100 => ?_)
          · have n100 := bI_z.mp c100
            refine aw_iconst (v := 0) dX6_readStatement_114 (by decide) ?_
            refine aw_zret rfl dX6_readStatement_115 rfl (ble' rfl) (ble' rfl) ?_
            exact pd_ih (by rw [stT, if_neg n6, if_neg n35, if_neg n64, if_pos n93, thn, if_neg n100]; exact (bI_f n100).symm) (by rw [stT, if_neg n6, if_neg n35, if_neg n64, if_pos n93, thn, if_neg n100])
          · have n100 := bI_nz.mp c100
            refine aw_aload_n dX6_readStatement_103 rfl ?_
            refine ap_callVi kv_X6_68 ko_X6_readSemicolon (c_X6_readSemicolon hn hL (dy_ok hDI hE).2.2) dX6_readStatement_104 er_62 (l_62 hn) rfl rfl rfl rfl (ble' rfl) (by decide) ?_
            refine aw_if_eq 114 dX6_readStatement_107 (by decide) (fun c107 => ?_) (fun c107 => ?_)
            · have n107 := bI_z.mp c107
              refine aw_iconst (v := 0) dX6_readStatement_114 (by decide) ?_
              refine aw_zret rfl dX6_readStatement_115 rfl (ble' rfl) (ble' rfl) ?_
              exact pd_ih (by rw [stT, if_neg n6, if_neg n35, if_neg n64, if_pos n93, thn, if_pos n100]; exact (bI_f n107).symm) (by rw [stT, if_neg n6, if_neg n35, if_neg n64, if_pos n93, thn, if_pos n100])
            · have n107 := bI_nz.mp c107
              refine aw_iconst (v := 1) dX6_readStatement_110 (by decide) ?_
              refine aw_goto 115 dX6_readStatement_111 (by decide) ?_
              refine aw_zret rfl dX6_readStatement_115 rfl (ble' rfl) (ble' rfl) ?_
              exact pd_ih (by rw [stT, if_neg n6, if_neg n35, if_neg n64, if_pos n93, thn, if_pos n100]; exact (bI_t n107).symm) (by rw [stT, if_neg n6, if_neg n35, if_neg n64, if_pos n93, thn, if_pos n100])
      · have n64 := bI_nz.mp c64
        refine aw_aload_n dX6_readStatement_67 rfl ?_
        refine ap_callVi kv_X6_78 ko_X6_readSeason (c_X6_readSeason hn hL hE hz hz4) dX6_readStatement_68 er_62 (l_62 hn) rfl rfl rfl rfl (ble' rfl) (by decide) ?_
        refine aw_if_eq 85 dX6_readStatement_71 (by decide) (fun c71 => ?_) (fun c71 => ?_)
        · have n71 := bI_z.mp c71
          refine aw_iconst (v := 0) dX6_readStatement_85 (by decide) ?_
          refine aw_zret rfl dX6_readStatement_86 rfl (ble' rfl) (ble' rfl) ?_
          exact pd_ih (by rw [stT, if_neg n6, if_neg n35, if_pos n64, thn, if_neg n71]; exact (bI_f n71).symm) (by rw [stT, if_neg n6, if_neg n35, if_pos n64, thn, if_neg n71])
        · have n71 := bI_nz.mp c71
          refine aw_aload_n dX6_readStatement_74 rfl ?_
          refine ap_callVi kv_X6_68 ko_X6_readSemicolon (c_X6_readSemicolon hn hL (sz_ok hDI hE).2.2) dX6_readStatement_75 er_62 (l_62 hn) rfl rfl rfl rfl (ble' rfl) (by decide) ?_
          refine aw_if_eq 85 dX6_readStatement_78 (by decide) (fun c78 => ?_) (fun c78 => ?_)
          · have n78 := bI_z.mp c78
            refine aw_iconst (v := 0) dX6_readStatement_85 (by decide) ?_
            refine aw_zret rfl dX6_readStatement_86 rfl (ble' rfl) (ble' rfl) ?_
            exact pd_ih (by rw [stT, if_neg n6, if_neg n35, if_pos n64, thn, if_pos n71]; exact (bI_f n78).symm) (by rw [stT, if_neg n6, if_neg n35, if_pos n64, thn, if_pos n71])
          · have n78 := bI_nz.mp c78
            refine aw_iconst (v := 1) dX6_readStatement_81 (by decide) ?_
            refine aw_goto 86 dX6_readStatement_82 (by decide) ?_
            refine aw_zret rfl dX6_readStatement_86 rfl (ble' rfl) (ble' rfl) ?_
            exact pd_ih (by rw [stT, if_neg n6, if_neg n35, if_pos n64, thn, if_pos n71]; exact (bI_t n78).symm) (by rw [stT, if_neg n6, if_neg n35, if_pos n64, thn, if_pos n71])
    · have n35 := bI_nz.mp c35
      refine aw_aload_n dX6_readStatement_38 rfl ?_
      refine ap_callVi kv_X6_73 ko_X6_readSites (c_X6_readSites hn hL hE hs hs4) dX6_readStatement_39 er_62 (l_62 hn) rfl rfl rfl rfl (ble' rfl) (by decide) ?_
      refine aw_if_eq 56 dX6_readStatement_42 (by decide) (fun c42 => ?_) (fun c42 => ?_)
      · have n42 := bI_z.mp c42
        refine aw_iconst (v := 0) dX6_readStatement_56 (by decide) ?_
        refine aw_zret rfl dX6_readStatement_57 rfl (ble' rfl) (ble' rfl) ?_
        exact pd_ih (by rw [stT, if_neg n6, if_pos n35, thn, if_neg n42]; exact (bI_f n42).symm) (by rw [stT, if_neg n6, if_pos n35, thn, if_neg n42])
      · have n42 := bI_nz.mp c42
        refine aw_aload_n dX6_readStatement_45 rfl ?_
        refine ap_callVi kv_X6_68 ko_X6_readSemicolon (c_X6_readSemicolon hn hL (si_ok 17 hDI (step_E hE)).2.2) dX6_readStatement_46 er_62 (l_62 hn) rfl rfl rfl rfl (ble' rfl) (by decide) ?_
        refine aw_if_eq 56 dX6_readStatement_49 (by decide) (fun c49 => ?_) (fun c49 => ?_)
        · have n49 := bI_z.mp c49
          refine aw_iconst (v := 0) dX6_readStatement_56 (by decide) ?_
          refine aw_zret rfl dX6_readStatement_57 rfl (ble' rfl) (ble' rfl) ?_
          exact pd_ih (by rw [stT, if_neg n6, if_pos n35, thn, if_pos n42]; exact (bI_f n49).symm) (by rw [stT, if_neg n6, if_pos n35, thn, if_pos n42])
        · have n49 := bI_nz.mp c49
          refine aw_iconst (v := 1) dX6_readStatement_52 (by decide) ?_
          refine aw_goto 57 dX6_readStatement_53 (by decide) ?_
          refine aw_zret rfl dX6_readStatement_57 rfl (ble' rfl) (ble' rfl) ?_
          exact pd_ih (by rw [stT, if_neg n6, if_pos n35, thn, if_pos n42]; exact (bI_t n49).symm) (by rw [stT, if_neg n6, if_pos n35, thn, if_pos n42])
  · have n6 := bI_nz.mp c6
    refine aw_aload_n dX6_readStatement_9 rfl ?_
    refine ap_callVi kv_X6_65 ko_X6_readClass (c_X6_readClass hn hL hE hc hc4) dX6_readStatement_10 er_62 (l_62 hn) rfl rfl rfl rfl (ble' rfl) (by decide) ?_
    refine aw_if_eq 27 dX6_readStatement_13 (by decide) (fun c13 => ?_) (fun c13 => ?_)
    · have n13 := bI_z.mp c13
      refine aw_iconst (v := 0) dX6_readStatement_27 (by decide) ?_
      refine aw_zret rfl dX6_readStatement_28 rfl (ble' rfl) (ble' rfl) ?_
      exact pd_ih (by rw [stT, if_pos n6, thn, if_neg n13]; exact (bI_f n13).symm) (by rw [stT, if_pos n6, thn, if_neg n13])
    · have n13 := bI_nz.mp c13
      refine aw_aload_n dX6_readStatement_16 rfl ?_
      refine ap_callVi kv_X6_68 ko_X6_readSemicolon (c_X6_readSemicolon hn hL (cl_ok hDI hE).2.2) dX6_readStatement_17 er_62 (l_62 hn) rfl rfl rfl rfl (ble' rfl) (by decide) ?_
      refine aw_if_eq 27 dX6_readStatement_20 (by decide) (fun c20 => ?_) (fun c20 => ?_)
      · have n20 := bI_z.mp c20
        refine aw_iconst (v := 0) dX6_readStatement_27 (by decide) ?_
        refine aw_zret rfl dX6_readStatement_28 rfl (ble' rfl) (ble' rfl) ?_
        exact pd_ih (by rw [stT, if_pos n6, thn, if_pos n13]; exact (bI_f n20).symm) (by rw [stT, if_pos n6, thn, if_pos n13])
      · have n20 := bI_nz.mp c20
        refine aw_iconst (v := 1) dX6_readStatement_23 (by decide) ?_
        refine aw_goto 28 dX6_readStatement_24 (by decide) ?_
        refine aw_zret rfl dX6_readStatement_28 rfl (ble' rfl) (ble' rfl) ?_
        exact pd_ih (by rw [stT, if_pos n6, thn, if_pos n13]; exact (bI_t n20).symm) (by rw [stT, if_pos n6, thn, if_pos n13])

def rdL (L : Nat) : Nat → (Nat → Nat → Int32) → RT → Bool × Nat × (Nat → Nat → Int32) × RT
  | 0, M, t => (true, 0, M, t)
  | f + 1, M, t => if t.1 = 0 then (true, 0, M, t) else if (stT M L t).1 = true then ((rdL L f (stT M L t).2.1 (stT M L t).2.2).1, (rdL L f (stT M L t).2.1 (stT M L t).2.2).2.1 + 1, (rdL L f (stT M L t).2.1 (stT M L t).2.2).2.2) else (false, 0, (stT M L t).2.1, (stT M L t).2.2)
theorem nI_v {k : Nat} (f : Nat → Nat → Nat) : True := trivial
set_option maxRecDepth 100000 in
set_option maxHeartbeats 4000000 in
theorem lp_X6_read {G : AG} {n : Nat} (hn : 72 ≤ n) {L : Nat} (hL : L ≤ 500) {x1 : Int32} : ∀ (f i : Nat) (x2 : Int32) (M : Nat → Nat → Int32) (t : RT), i + f = 500 → x2 = nI i → t.2.2.1 ≤ L → t.2.1 ≤ t.2.2.1 → DI M → AW tX6_read (AQm tX6_read (PD (.inl (some (.int (if (rdL L f M t).1 = true then nI (i + (rdL L f M t).2.1) else -1)))) (wld G (rd (rdL L f M t).2.2.1 L (rdL L f M t).2.2.2)) n)) C0 41 [some (.ref 62), some (.int x1), some (.int x2)] [] (wld G (rd M L t)) n 0 0 := by
  intro f
  induction f with
  | zero =>
    intro i x2 M t hif h2 hE hS hDI
    refine aw_aload_n dX6_read_41 rfl ?_
    refine aw_get fl_X6_15 dX6_read_42 er_62 (l_62 hn) rfl ?_
    have fin : AW tX6_read (AQm tX6_read (PD (.inl (some (.int (if (rdL L 0 M t).1 = true then nI (i + (rdL L 0 M t).2.1) else -1)))) (wld G (rd (rdL L 0 M t).2.2.1 L (rdL L 0 M t).2.2.2)) n)) C0 70 [some (.ref 62), some (.int x1), some (.int x2)] [] (wld G (rd M L t)) n 0 0 := by
      refine aw_iload_n dX6_read_70 rfl ?_
      refine aw_iret rfl dX6_read_71 (ble' rfl) (ble' rfl) ?_
      exact pd_ih (by rw [h2]; rfl) rfl
    refine aw_if_eq 70 dX6_read_45 (by decide) (fun _ => fin) (fun _ => ?_)
    refine aw_iload_n dX6_read_48 rfl ?_
    refine aw_sipush (v := 500) dX6_read_49 (by decide) ?_
    exact aw_icmp_ge 70 dX6_read_52 (by decide) (fun _ => fin) (fun q => absurd (show (500 : Int32) ≤ x2 by rw [h2, show i = 500 by omega]; decide) q)
  | succ f ih =>
    intro i x2 M t hif h2 hE hS hDI
    refine aw_aload_n dX6_read_41 rfl ?_
    refine aw_get fl_X6_15 dX6_read_42 er_62 (l_62 hn) rfl ?_
    refine aw_if_eq 70 dX6_read_45 (by decide) (fun c45 => ?_) (fun c45 => ?_)
    · refine aw_iload_n dX6_read_70 rfl ?_
      refine aw_iret rfl dX6_read_71 (ble' rfl) (ble' rfl) ?_
      exact pd_ih (by rw [rdL, if_pos c45, if_pos rfl, h2]; rfl) (by rw [rdL, if_pos c45])
    refine aw_iload_n dX6_read_48 rfl ?_
    refine aw_sipush (v := 500) dX6_read_49 (by decide) ?_
    refine aw_icmp_ge 70 dX6_read_52 (by decide) (fun q => absurd (le_of_le (show (500 : Int32) = nI 500 from rfl) h2 (by decide) (by omega) q) (by omega)) (fun _ => ?_)
    refine aw_aload_n dX6_read_55 rfl ?_
    refine ap_callVi kv_X6_55 ko_X6_readStatement (c_X6_readStatement hn hL hE hS hDI) dX6_read_56 er_62 (l_62 hn) rfl rfl rfl rfl (ble' rfl) (by decide) ?_
    obtain ⟨⟨o1, o2, o3⟩, o4⟩ := st_ok (L := L) (t := t) hDI hE
    refine aw_if_ne 64 dX6_read_59 (by decide) (fun c59 => ?_) (fun c59 => ?_)
    · have n59 := bI_nz.mp c59
      refine aw_iinc (lo' := [_, _, some (.int _)]) dX6_read_64 rfl (by decide) rfl ?_
      refine aw_goto 41 dX6_read_67 (by decide) ?_
      have e : rdL L (f + 1) M t = ((rdL L f (stT M L t).2.1 (stT M L t).2.2).1, (rdL L f (stT M L t).2.1 (stT M L t).2.2).2.1 + 1, (rdL L f (stT M L t).2.1 (stT M L t).2.2).2.2) := by rw [rdL, if_neg c45, if_pos n59]
      rw [e]
      have k := ih (i + 1) (x2 + Int32.ofInt 1) (stT M L t).2.1 (stT M L t).2.2 (by omega) (by rw [h2]; exact inc1 i) o3 (o4 n59) o1
      rw [show i + 1 + (rdL L f (stT M L t).2.1 (stT M L t).2.2).2.1 = i + ((rdL L f (stT M L t).2.1 (stT M L t).2.2).2.1 + 1) by omega] at k
      exact k
    · have n59 := bI_z.mp c59
      refine aw_iconst (v := -1) dX6_read_62 (by decide) ?_
      refine aw_iret rfl dX6_read_63 (ble' rfl) (ble' rfl) ?_
      exact pd_ih (by rw [rdL, if_neg c45, if_neg n59]; rfl) (by rw [rdL, if_neg c45, if_neg n59])

theorem rd_clr {M : Nat → Nat → Int32} {l k s e v c p : Int32} : clrD (rsM M l k s e v c p) = rsM (clrD M) l k s e v c p := by
  funext i
  by_cases h : i = 62
  · subst h; rfl
  · simp [clrD, rsM, updM, h]
theorem min_L {l : Int32} {L : Nat} (hl : l = nI L) (hL : L ≤ 500) : (if (500 : Int32) < l then 500 else l) = nI L := by
  rw [if_neg (by rw [hl]; exact nI_nlt (a := 500) (b := L) hL (by decide)), hl]
set_option maxRecDepth 100000 in
set_option maxHeartbeats 4000000 in
theorem c_X6_read {G : AG} {M : Nat → Nat → Int32} {n : Nat} (hn : 72 ≤ n) {l : Int32} {L s0 : Nat} (hl : l = nI L) (hL : L ≤ 500) (hs0 : M 62 4 = nI s0) : AMet tX6_read yX6_read [Cond.code yX6_read cX6_read 3 (some .int)] [.ref 62, .int l] (wld G M) n (PD (.inl (some (.int (if (rdL L 500 (clrD M) (stepT (M 61) L (M 62 3, s0, 0, M 62 6, 0, -1))).1 = true then nI (rdL L 500 (clrD M) (stepT (M 61) L (M 62 3, s0, 0, M 62 6, 0, -1))).2.1 else -1)))) (wld G (rd (rdL L 500 (clrD M) (stepT (M 61) L (M 62 3, s0, 0, M 62 6, 0, -1))).2.2.1 L (rdL L 500 (clrD M) (stepT (M 61) L (M 62 3, s0, 0, M 62 6, 0, -1))).2.2.2)) n) := by
  refine am_of (lo := [_, _, _]) (by decide) rfl (fun q => by cases q) rfl rfl rfl ?_
  refine aw_heq rd_wld ?_
  refine aw_aload_n dX6_read_0 rfl ?_
  refine aw_iload_n dX6_read_1 rfl ?_
  refine aw_aload_n dX6_read_2 rfl ?_
  refine aw_get fl_X6_33 dX6_read_3 er_62 (l_62 hn) rfl ?_
  refine aw_alen (v := 500) dX6_read_6 er_61 (l_61 hn) (by decide) (by decide) ?_
  refine aw_mmin km_X6_41 dX6_read_7 ⟨by decide, ble' rfl, by decide, by decide⟩ ?_
  rw [min_L hl hL, hs0]
  refine aw_put fp_X6_9_m dX6_read_10 er_62 (l_62 hn) (ble' rfl) (fun _ => ⟨rfl, rfl⟩) (hr_2 rfl) ?_
  refine aw_aload_n dX6_read_13 rfl ?_
  refine aw_iconst (v := 0) dX6_read_14 (by decide) ?_
  refine aw_put fp_X6_21_m dX6_read_15 er_62 (l_62 hn) (ble' rfl) (fun _ => ⟨rfl, rfl⟩) (hr_5 rfl) ?_
  refine aw_aload_n dX6_read_18 rfl ?_
  refine aw_iconst (v := 0) dX6_read_19 (by decide) ?_
  refine aw_put fp_X6_27_m dX6_read_20 er_62 (l_62 hn) (ble' rfl) (fun _ => ⟨rfl, rfl⟩) (hr_7 rfl) ?_
  refine aw_aload_n dX6_read_23 rfl ?_
  refine aw_iconst (v := -1) dX6_read_24 (by decide) ?_
  refine aw_put fp_X6_30_m dX6_read_25 er_62 (l_62 hn) (ble' rfl) (fun _ => ⟨rfl, rfl⟩) (hr_8 rfl) ?_
  refine aw_aload_n dX6_read_28 rfl ?_
  refine aw_get fl_X6_37 dX6_read_29 er_62 (l_62 hn) rfl ?_
  refine ap_callVv kv_X6_47 ko_X1_clear (c_X1_clear (M := rsM M (nI L) (M 62 3) (nI s0) 0 (M 62 6) 0 (-1)) hn) dX6_read_32 er_28 (l_28 hn) rfl rfl rfl rfl (ble' rfl) (by decide) ?_
  refine aw_heq (h' := wld G (rd (clrD M) L (M 62 3, s0, 0, M 62 6, 0, -1))) (by rw [rd_clr]; rfl) ?_
  refine aw_aload_n dX6_read_35 rfl ?_
  refine ap_callVv kv_X6_52 ko_X6_step (c_X6_step (M := clrD M) (t := (M 62 3, s0, 0, M 62 6, 0, -1)) hn hL (Nat.zero_le _)) dX6_read_36 er_62 (l_62 hn) rfl rfl rfl rfl (ble' rfl) (by decide) ?_
  refine aw_iconst (v := 0) dX6_read_39 (by decide) ?_
  refine aw_istore_n (lo' := [_, _, some (.int _)]) dX6_read_40 (by decide) rfl ?_
  have hDI : DI (clrD M) := ⟨⟨0, rfl, by omega⟩, ⟨0, rfl, by omega⟩, ⟨0, rfl, by omega⟩⟩
  have k := lp_X6_read (G := G) (x1 := l) hn hL 500 0 _ (clrD M) _ rfl rfl (step_E (t := (M 62 3, s0, 0, M 62 6, 0, -1)) (x := M 61) (Nat.zero_le L)) (step_S (Nat.zero_le L)) hDI
  simp only [Nat.zero_add] at k
  exact k
