set_option maxRecDepth 100000 in
set_option maxHeartbeats 4000000 in
theorem c_X10_parseStatement {G : AG} {M : Nat → Nat → Int32} {n : Nat} (hn : 72 ≤ n) {L : Nat} (hl : M 63 10 = nI L) (hL : L ≤ 500) (hx : ∀ i, i < 500 → ¬ M 70 i = -1) {t : RV} (hE : t.2.2.1 ≤ L) (hSR : SR M) : AMet tX10_parseStatement yX10_parseStatement [Cond.code yX10_parseStatement cX10_parseStatement 2 none] [.ref 63] (wld (gv G t) (rv M t)) n (PD (.inl none) (wld (gv G (stV L M t).2) (rv (stV L M t).1 (stV L M t).2)) n) := by
  obtain ⟨⟨kc, hc, hc4⟩, ⟨ks, hs, hs4⟩, ⟨kz, hz, hz4⟩⟩ := id hSR
  refine am_of (lo := [_, _]) (by decide) rfl (fun q => by cases q) rfl rfl rfl ?_
  refine aw_aload_n dX10_parseStatement_0 rfl ?_
  refine aw_ldcSW (k := 0) (stw_at 4 rfl) dX10_parseStatement_1 ?_
  refine ap_callVi kv_X10_276 ko_X10_isWord (c_X10_isWord (t := t) hn (by decide)) dX10_parseStatement_4 ev_63 (l_63 hn) rfl rfl rfl rfl (ble' rfl) (by decide) ?_
  refine aw_if_eq 17 dX10_parseStatement_7 (by decide) (fun c7 => ?_) (fun c7 => ?_)
  · have n7 := bI_z.mp c7
    refine aw_aload_n dX10_parseStatement_17 rfl ?_
    refine aw_ldcSW (k := 1) (stw_at 5 rfl) dX10_parseStatement_18 ?_
    refine ap_callVi kv_X10_276 ko_X10_isWord (c_X10_isWord (t := t) hn (by decide)) dX10_parseStatement_21 ev_63 (l_63 hn) rfl rfl rfl rfl (ble' rfl) (by decide) ?_
    refine aw_if_eq 34 dX10_parseStatement_24 (by decide) (fun c24 => ?_) (fun c24 => ?_)
    · have n24 := bI_z.mp c24
      refine aw_aload_n dX10_parseStatement_34 rfl ?_
      refine aw_ldcSW (k := 2) (stw_at 6 rfl) dX10_parseStatement_35 ?_
      refine ap_callVi kv_X10_276 ko_X10_isWord (c_X10_isWord (t := t) hn (by decide)) dX10_parseStatement_38 ev_63 (l_63 hn) rfl rfl rfl rfl (ble' rfl) (by decide) ?_
      refine aw_if_eq 51 dX10_parseStatement_41 (by decide) (fun c41 => ?_) (fun c41 => ?_)
      · have n41 := bI_z.mp c41
        refine aw_aload_n dX10_parseStatement_51 rfl ?_
        refine aw_aload_n dX10_parseStatement_52 rfl ?_
        refine aw_ldcSW (k := 3) (stw_at 7 rfl) dX10_parseStatement_53 ?_
        refine ap_callVi kv_X10_276 ko_X10_isWord (c_X10_isWord (t := t) hn (by decide)) dX10_parseStatement_56 ev_63 (l_63 hn) rfl rfl rfl rfl (ble' rfl) (by decide) ?_
        refine aw_iconst (v := 1) dX10_parseStatement_59 (by decide) ?_
        refine ap_callVv kv_X10_264 ko_X10_require (c_X10_require (t := t) hn _ 1) dX10_parseStatement_60 ev_63 (l_63 hn) rfl rfl rfl rfl (ble' rfl) (by decide) ?_
        rw [rq_b (P := isWV t 3 = true)]
        obtain ⟨t1, ht1⟩ : ∃ t9, t9 = rqV (isWV t 3 = true) 1 t := ⟨_, rfl⟩
        rw [← ht1]
        refine aw_aload_n dX10_parseStatement_63 rfl ?_
        refine ap_callVv kv_X10_268 ko_X10_advanceToken (c_X10_advanceToken hn hl hL hx (t := t1) (by rw [ht1]; exact rq_E hE)) dX10_parseStatement_64 ev_63 (l_63 hn) rfl rfl rfl rfl (ble' rfl) (by decide) ?_
        obtain ⟨t2, ht2⟩ : ∃ t9, t9 = advV (M 70) L t1 := ⟨_, rfl⟩
        have Et2 : t2.2.2.1 ≤ L := by rw [ht2]; exact adv_E (by rw [ht1]; exact rq_E hE)
        rw [← ht2]
        refine aw_aload_n dX10_parseStatement_67 rfl ?_
        refine aw_iconst (v := 0) dX10_parseStatement_68 (by decide) ?_
        refine aw_sipush (v := 999) dX10_parseStatement_69 (by decide) ?_
        refine ap_callVi kv_X10_271 ko_X10_parseNumber (c_X10_parseNumber hn hl hL hx (t := t2) Et2 _ _) dX10_parseStatement_72 ev_63 (l_63 hn) rfl rfl rfl rfl (ble' rfl) (by decide) ?_
        obtain ⟨t3, ht3⟩ : ∃ t9, t9 = pnV (M 70) L 0 999 t2 := ⟨_, rfl⟩
        have Et3 : t3.2.2.1 ≤ L := by rw [ht3]; exact pn_E Et2
        rw [← ht3]
        refine aw_istore_n (lo' := [_, some (.int _)]) dX10_parseStatement_75 (by decide) rfl ?_
        refine aw_aload_n dX10_parseStatement_76 rfl ?_
        refine aw_get fl_X10_7 dX10_parseStatement_77 ev_63 (l_63 hn) rfl ?_
        refine aw_iconst (v := 0) dX10_parseStatement_80 (by decide) ?_
        refine aw_aload_n dX10_parseStatement_81 rfl ?_
        refine aw_get fl_X10_258 dX10_parseStatement_82 ev_63 (l_63 hn) rfl ?_
        refine aw_if_ne 92 dX10_parseStatement_85 (by decide) (fun c85 => ?_) (fun c85 => ?_)
        · refine aw_aload_n dX10_parseStatement_92 rfl ?_
          refine aw_get fl_X10_7 dX10_parseStatement_93 ev_63 (l_63 hn) rfl ?_
          refine aw_iconst (v := 0) dX10_parseStatement_96 (by decide) ?_
          refine aw_ialdk dX10_parseStatement_97 ev_64 (l_64 hn) (show (0 : Int32) = nI 0 from rfl) (by decide) rfl ?_
          refine aw_iastk dX10_parseStatement_98 ev_64 (l_64 hn) (show (0 : Int32) = nI 0 from rfl) (by decide) rfl hv64 ?_
          have hro : ROV M L (pdV L M t) := pdy_ok hSR hE
          have f2 : t2 = pd2 (M 70) L t := by rw [ht2, ht1]; rfl
          have f3 : t3 = pd3 (M 70) L t := by rw [ht3, f2]; rfl
          obtain ⟨r, hr⟩ : ∃ r, r = pdV L M t := ⟨_, rfl⟩
          refine aw_heq (h' := wld (gv G r.2) (rv r.1 r.2)) (by rw [hr, pdV, if_neg (by rw [← f3]; exact c85), ← f3]; rfl) ?_
          rw [← hr] at hro
          obtain ⟨o1, o2, o3, o4⟩ := hro
          refine aw_aload_n dX10_parseStatement_99 rfl ?_
          refine aw_aload_n dX10_parseStatement_100 rfl ?_
          refine aw_get fl_X10_235 dX10_parseStatement_101 ev_63 (l_63 hn) rfl ?_
          refine aw_iconst (v := 4) dX10_parseStatement_104 (by decide) ?_
          refine aw_icmp_ne 112 dX10_parseStatement_105 (by decide) (fun c105 => ?_) (fun c105 => ?_)
          · refine aw_iconst (v := 0) dX10_parseStatement_112 (by decide) ?_
            refine aw_iconst (v := 1) dX10_parseStatement_113 (by decide) ?_
            refine ap_callVv kv_X10_264 ko_X10_require (c_X10_require (G := G) (M := r.1) (t := r.2) hn _ 1) dX10_parseStatement_114 ev_63 (l_63 hn) rfl rfl rfl rfl (ble' rfl) (by decide) ?_
            rw [rq_0 (P := r.2.1 = 4) c105]
            refine aw_aload_n dX10_parseStatement_117 rfl ?_
            refine ap_callVv kv_X10_268 ko_X10_advanceToken (c_X10_advanceToken (M := r.1) (t := rqV (r.2.1 = 4) 1 r.2) hn (by rw [o2]; exact hl) hL (by rw [o3]; exact hx) (rq_E o4)) dX10_parseStatement_118 ev_63 (l_63 hn) rfl rfl rfl rfl (ble' rfl) (by decide) ?_
            refine aw_vret rfl dX10_parseStatement_121 (ble' rfl) (ble' rfl) ?_
            exact pd_v (by rw [stV, if_neg n7, if_neg n24, if_neg n41, ← hr]; rfl)
          · refine aw_iconst (v := 1) dX10_parseStatement_108 (by decide) ?_
            refine aw_goto 113 dX10_parseStatement_109 (by decide) ?_
            refine aw_iconst (v := 1) dX10_parseStatement_113 (by decide) ?_
            refine ap_callVv kv_X10_264 ko_X10_require (c_X10_require (G := G) (M := r.1) (t := r.2) hn _ 1) dX10_parseStatement_114 ev_63 (l_63 hn) rfl rfl rfl rfl (ble' rfl) (by decide) ?_
            rw [rq_1 (P := r.2.1 = 4) c105]
            refine aw_aload_n dX10_parseStatement_117 rfl ?_
            refine ap_callVv kv_X10_268 ko_X10_advanceToken (c_X10_advanceToken (M := r.1) (t := rqV (r.2.1 = 4) 1 r.2) hn (by rw [o2]; exact hl) hL (by rw [o3]; exact hx) (rq_E o4)) dX10_parseStatement_118 ev_63 (l_63 hn) rfl rfl rfl rfl (ble' rfl) (by decide) ?_
            refine aw_vret rfl dX10_parseStatement_121 (ble' rfl) (ble' rfl) ?_
            exact pd_v (by rw [stV, if_neg n7, if_neg n24, if_neg n41, ← hr]; rfl)
        · refine aw_iload_n dX10_parseStatement_88 rfl ?_
          refine aw_goto 98 dX10_parseStatement_89 (by decide) ?_
          refine aw_iastk dX10_parseStatement_98 ev_64 (l_64 hn) (show (0 : Int32) = nI 0 from rfl) (by decide) rfl hv64 ?_
          have hro : ROV M L (pdV L M t) := pdy_ok hSR hE
          have f2 : t2 = pd2 (M 70) L t := by rw [ht2, ht1]; rfl
          have f3 : t3 = pd3 (M 70) L t := by rw [ht3, f2]; rfl
          obtain ⟨r, hr⟩ : ∃ r, r = pdV L M t := ⟨_, rfl⟩
          refine aw_heq (h' := wld (gv G r.2) (rv r.1 r.2)) (by rw [hr, pdV, if_pos (by rw [← f3]; exact c85), ← f3, ← f2]; rfl) ?_
          rw [← hr] at hro
          obtain ⟨o1, o2, o3, o4⟩ := hro
          refine aw_aload_n dX10_parseStatement_99 rfl ?_
          refine aw_aload_n dX10_parseStatement_100 rfl ?_
          refine aw_get fl_X10_235 dX10_parseStatement_101 ev_63 (l_63 hn) rfl ?_
          refine aw_iconst (v := 4) dX10_parseStatement_104 (by decide) ?_
          refine aw_icmp_ne 112 dX10_parseStatement_105 (by decide) (fun c105 => ?_) (fun c105 => ?_)
          · refine aw_iconst (v := 0) dX10_parseStatement_112 (by decide) ?_
            refine aw_iconst (v := 1) dX10_parseStatement_113 (by decide) ?_
            refine ap_callVv kv_X10_264 ko_X10_require (c_X10_require (G := G) (M := r.1) (t := r.2) hn _ 1) dX10_parseStatement_114 ev_63 (l_63 hn) rfl rfl rfl rfl (ble' rfl) (by decide) ?_
            rw [rq_0 (P := r.2.1 = 4) c105]
            refine aw_aload_n dX10_parseStatement_117 rfl ?_
            refine ap_callVv kv_X10_268 ko_X10_advanceToken (c_X10_advanceToken (M := r.1) (t := rqV (r.2.1 = 4) 1 r.2) hn (by rw [o2]; exact hl) hL (by rw [o3]; exact hx) (rq_E o4)) dX10_parseStatement_118 ev_63 (l_63 hn) rfl rfl rfl rfl (ble' rfl) (by decide) ?_
            refine aw_vret rfl dX10_parseStatement_121 (ble' rfl) (ble' rfl) ?_
            exact pd_v (by rw [stV, if_neg n7, if_neg n24, if_neg n41, ← hr]; rfl)
          · refine aw_iconst (v := 1) dX10_parseStatement_108 (by decide) ?_
            refine aw_goto 113 dX10_parseStatement_109 (by decide) ?_
            refine aw_iconst (v := 1) dX10_parseStatement_113 (by decide) ?_
            refine ap_callVv kv_X10_264 ko_X10_require (c_X10_require (G := G) (M := r.1) (t := r.2) hn _ 1) dX10_parseStatement_114 ev_63 (l_63 hn) rfl rfl rfl rfl (ble' rfl) (by decide) ?_
            rw [rq_1 (P := r.2.1 = 4) c105]
            refine aw_aload_n dX10_parseStatement_117 rfl ?_
            refine ap_callVv kv_X10_268 ko_X10_advanceToken (c_X10_advanceToken (M := r.1) (t := rqV (r.2.1 = 4) 1 r.2) hn (by rw [o2]; exact hl) hL (by rw [o3]; exact hx) (rq_E o4)) dX10_parseStatement_118 ev_63 (l_63 hn) rfl rfl rfl rfl (ble' rfl) (by decide) ?_
            refine aw_vret rfl dX10_parseStatement_121 (ble' rfl) (ble' rfl) ?_
            exact pd_v (by rw [stV, if_neg n7, if_neg n24, if_neg n41, ← hr]; rfl)
      · have n41 := bI_nz.mp c41
        refine aw_aload_n dX10_parseStatement_44 rfl ?_
        refine ap_callVv kv_X10_288 ko_X10_parseSeason (c_X10_parseSeason hn hl hL hx hE hz hz4) dX10_parseStatement_45 ev_63 (l_63 hn) rfl rfl rfl rfl (ble' rfl) (by decide) ?_
        have hro : ROV M L (pzV L M t) := pz_ok hSR hE
        obtain ⟨r, hr⟩ : ∃ r, r = (pzV L M t) := ⟨_, rfl⟩
        rw [← hr] at hro ⊢
        obtain ⟨o1, o2, o3, o4⟩ := hro
        refine aw_goto 99 dX10_parseStatement_48 (by decide) ?_
        refine aw_aload_n dX10_parseStatement_99 rfl ?_
        refine aw_aload_n dX10_parseStatement_100 rfl ?_
        refine aw_get fl_X10_235 dX10_parseStatement_101 ev_63 (l_63 hn) rfl ?_
        refine aw_iconst (v := 4) dX10_parseStatement_104 (by decide) ?_
        refine aw_icmp_ne 112 dX10_parseStatement_105 (by decide) (fun c105 => ?_) (fun c105 => ?_)
        · refine aw_iconst (v := 0) dX10_parseStatement_112 (by decide) ?_
          refine aw_iconst (v := 1) dX10_parseStatement_113 (by decide) ?_
          refine ap_callVv kv_X10_264 ko_X10_require (c_X10_require (G := G) (M := r.1) (t := r.2) hn _ 1) dX10_parseStatement_114 ev_63 (l_63 hn) rfl rfl rfl rfl (ble' rfl) (by decide) ?_
          rw [rq_0 (P := r.2.1 = 4) c105]
          refine aw_aload_n dX10_parseStatement_117 rfl ?_
          refine ap_callVv kv_X10_268 ko_X10_advanceToken (c_X10_advanceToken (M := r.1) (t := rqV (r.2.1 = 4) 1 r.2) hn (by rw [o2]; exact hl) hL (by rw [o3]; exact hx) (rq_E o4)) dX10_parseStatement_118 ev_63 (l_63 hn) rfl rfl rfl rfl (ble' rfl) (by decide) ?_
          refine aw_vret rfl dX10_parseStatement_121 (ble' rfl) (ble' rfl) ?_
          exact pd_v (by rw [stV, if_neg n7, if_neg n24, if_pos n41, ← hr]; rfl)
        · refine aw_iconst (v := 1) dX10_parseStatement_108 (by decide) ?_
          refine aw_goto 113 dX10_parseStatement_109 (by decide) ?_
          refine aw_iconst (v := 1) dX10_parseStatement_113 (by decide) ?_
          refine ap_callVv kv_X10_264 ko_X10_require (c_X10_require (G := G) (M := r.1) (t := r.2) hn _ 1) dX10_parseStatement_114 ev_63 (l_63 hn) rfl rfl rfl rfl (ble' rfl) (by decide) ?_
          rw [rq_1 (P := r.2.1 = 4) c105]
          refine aw_aload_n dX10_parseStatement_117 rfl ?_
          refine ap_callVv kv_X10_268 ko_X10_advanceToken (c_X10_advanceToken (M := r.1) (t := rqV (r.2.1 = 4) 1 r.2) hn (by rw [o2]; exact hl) hL (by rw [o3]; exact hx) (rq_E o4)) dX10_parseStatement_118 ev_63 (l_63 hn) rfl rfl rfl rfl (ble' rfl) (by decide) ?_
          refine aw_vret rfl dX10_parseStatement_121 (ble' rfl) (ble' rfl) ?_
          exact pd_v (by rw [stV, if_neg n7, if_neg n24, if_pos n41, ← hr]; rfl)
    · have n24 := bI_nz.mp c24
      refine aw_aload_n dX10_parseStatement_27 rfl ?_
      refine ap_callVv kv_X10_284 ko_X10_parseSites (c_X10_parseSites hn hl hL hx hE hs hs4) dX10_parseStatement_28 ev_63 (l_63 hn) rfl rfl rfl rfl (ble' rfl) (by decide) ?_
      have hro : ROV M L (siV L 17 M (advV (M 70) L t)) := siv_ok 17 hSR (adv_E hE)
      obtain ⟨r, hr⟩ : ∃ r, r = (siV L 17 M (advV (M 70) L t)) := ⟨_, rfl⟩
      rw [← hr] at hro ⊢
      obtain ⟨o1, o2, o3, o4⟩ := hro
      refine aw_goto 99 dX10_parseStatement_31 (by decide) ?_
      refine aw_aload_n dX10_parseStatement_99 rfl ?_
      refine aw_aload_n dX10_parseStatement_100 rfl ?_
      refine aw_get fl_X10_235 dX10_parseStatement_101 ev_63 (l_63 hn) rfl ?_
      refine aw_iconst (v := 4) dX10_parseStatement_104 (by decide) ?_
      refine aw_icmp_ne 112 dX10_parseStatement_105 (by decide) (fun c105 => ?_) (fun c105 => ?_)
      · refine aw_iconst (v := 0) dX10_parseStatement_112 (by decide) ?_
        refine aw_iconst (v := 1) dX10_parseStatement_113 (by decide) ?_
        refine ap_callVv kv_X10_264 ko_X10_require (c_X10_require (G := G) (M := r.1) (t := r.2) hn _ 1) dX10_parseStatement_114 ev_63 (l_63 hn) rfl rfl rfl rfl (ble' rfl) (by decide) ?_
        rw [rq_0 (P := r.2.1 = 4) c105]
        refine aw_aload_n dX10_parseStatement_117 rfl ?_
        refine ap_callVv kv_X10_268 ko_X10_advanceToken (c_X10_advanceToken (M := r.1) (t := rqV (r.2.1 = 4) 1 r.2) hn (by rw [o2]; exact hl) hL (by rw [o3]; exact hx) (rq_E o4)) dX10_parseStatement_118 ev_63 (l_63 hn) rfl rfl rfl rfl (ble' rfl) (by decide) ?_
        refine aw_vret rfl dX10_parseStatement_121 (ble' rfl) (ble' rfl) ?_
        exact pd_v (by rw [stV, if_neg n7, if_pos n24, ← hr]; rfl)
      · refine aw_iconst (v := 1) dX10_parseStatement_108 (by decide) ?_
        refine aw_goto 113 dX10_parseStatement_109 (by decide) ?_
        refine aw_iconst (v := 1) dX10_parseStatement_113 (by decide) ?_
        refine ap_callVv kv_X10_264 ko_X10_require (c_X10_require (G := G) (M := r.1) (t := r.2) hn _ 1) dX10_parseStatement_114 ev_63 (l_63 hn) rfl rfl rfl rfl (ble' rfl) (by decide) ?_
        rw [rq_1 (P := r.2.1 = 4) c105]
        refine aw_aload_n dX10_parseStatement_117 rfl ?_
        refine ap_callVv kv_X10_268 ko_X10_advanceToken (c_X10_advanceToken (M := r.1) (t := rqV (r.2.1 = 4) 1 r.2) hn (by rw [o2]; exact hl) hL (by rw [o3]; exact hx) (rq_E o4)) dX10_parseStatement_118 ev_63 (l_63 hn) rfl rfl rfl rfl (ble' rfl) (by decide) ?_
        refine aw_vret rfl dX10_parseStatement_121 (ble' rfl) (ble' rfl) ?_
        exact pd_v (by rw [stV, if_neg n7, if_pos n24, ← hr]; rfl)
  · have n7 := bI_nz.mp c7
    refine aw_aload_n dX10_parseStatement_10 rfl ?_
    refine ap_callVv kv_X10_280 ko_X10_parseClass (c_X10_parseClass hn hl hL hx hE hc hc4) dX10_parseStatement_11 ev_63 (l_63 hn) rfl rfl rfl rfl (ble' rfl) (by decide) ?_
    have hro : ROV M L (pcV L M t) := pc_ok hSR hE
    obtain ⟨r, hr⟩ : ∃ r, r = (pcV L M t) := ⟨_, rfl⟩
    rw [← hr] at hro ⊢
    obtain ⟨o1, o2, o3, o4⟩ := hro
    refine aw_goto 99 dX10_parseStatement_14 (by decide) ?_
    refine aw_aload_n dX10_parseStatement_99 rfl ?_
    refine aw_aload_n dX10_parseStatement_100 rfl ?_
    refine aw_get fl_X10_235 dX10_parseStatement_101 ev_63 (l_63 hn) rfl ?_
    refine aw_iconst (v := 4) dX10_parseStatement_104 (by decide) ?_
    refine aw_icmp_ne 112 dX10_parseStatement_105 (by decide) (fun c105 => ?_) (fun c105 => ?_)
    · refine aw_iconst (v := 0) dX10_parseStatement_112 (by decide) ?_
      refine aw_iconst (v := 1) dX10_parseStatement_113 (by decide) ?_
      refine ap_callVv kv_X10_264 ko_X10_require (c_X10_require (G := G) (M := r.1) (t := r.2) hn _ 1) dX10_parseStatement_114 ev_63 (l_63 hn) rfl rfl rfl rfl (ble' rfl) (by decide) ?_
      rw [rq_0 (P := r.2.1 = 4) c105]
      refine aw_aload_n dX10_parseStatement_117 rfl ?_
      refine ap_callVv kv_X10_268 ko_X10_advanceToken (c_X10_advanceToken (M := r.1) (t := rqV (r.2.1 = 4) 1 r.2) hn (by rw [o2]; exact hl) hL (by rw [o3]; exact hx) (rq_E o4)) dX10_parseStatement_118 ev_63 (l_63 hn) rfl rfl rfl rfl (ble' rfl) (by decide) ?_
      refine aw_vret rfl dX10_parseStatement_121 (ble' rfl) (ble' rfl) ?_
      exact pd_v (by rw [stV, if_pos n7, ← hr]; rfl)
    · refine aw_iconst (v := 1) dX10_parseStatement_108 (by decide) ?_
      refine aw_goto 113 dX10_parseStatement_109 (by decide) ?_
      refine aw_iconst (v := 1) dX10_parseStatement_113 (by decide) ?_
      refine ap_callVv kv_X10_264 ko_X10_require (c_X10_require (G := G) (M := r.1) (t := r.2) hn _ 1) dX10_parseStatement_114 ev_63 (l_63 hn) rfl rfl rfl rfl (ble' rfl) (by decide) ?_
      rw [rq_1 (P := r.2.1 = 4) c105]
      refine aw_aload_n dX10_parseStatement_117 rfl ?_
      refine ap_callVv kv_X10_268 ko_X10_advanceToken (c_X10_advanceToken (M := r.1) (t := rqV (r.2.1 = 4) 1 r.2) hn (by rw [o2]; exact hl) hL (by rw [o3]; exact hx) (rq_E o4)) dX10_parseStatement_118 ev_63 (l_63 hn) rfl rfl rfl rfl (ble' rfl) (by decide) ?_
      refine aw_vret rfl dX10_parseStatement_121 (ble' rfl) (ble' rfl) ?_
      exact pd_v (by rw [stV, if_pos n7, ← hr]; rfl)
