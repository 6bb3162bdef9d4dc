theorem ent_o {a : Nat → Option Nat} {w c c' : Int64} {i : Nat} {r : Nat → Int32} (h : i ≠ 71) : ent (a, w, c) i r = ent (a, w, c') i r := by
  unfold ent
  by_cases h1 : i < 63
  · rw [if_pos h1, if_pos h1]
  · by_cases h2 : i < 71
    · simp only [if_neg h1, if_pos h2]
    · simp only [if_neg h1, if_neg h2, if_neg (show ¬ i < 72 by omega)]
theorem hs71 {G : AG} {M : Nat → Nat → Int32} {x : Int64} : hset (wld G M) 71 (.inl (2, 1, .inr (.inl (fun _ => x)))) = wld (G.1, G.2.1, x) M := by
  funext i
  unfold hset wld
  by_cases h : i = 71
  · subst h; rfl
  · rw [if_neg h]; exact ent_o h
theorem aw_eqL {T : ATy} {Q : AQ} {CX : AC} {pc : Nat} {lo : List (Option Value)} {st : List Value} {h h' : Nat → AE} {n ce sl i : Nat} {f g : Nat → Int64} (he : h i = .inl (2, 1, .inr (.inl f))) (hi : i < n) (hfg : f 0 = g 0) (hh : hset h i (.inl (2, 1, .inr (.inl g))) = h') (kk : AW T Q CX pc lo st h' n ce sl) : AW T Q CX pc lo st h n ce sl := by
  intro p l e1 s m args below meth c H locs ls ad kc D z A hF hC hD
  have ha : (cW ad kc h n)[i]? = some (ad i, .inl (kc 2, 1, .inr (.inl f))) := cW_getE hi he rfl
  have hat : H[ad i]? = some (vp_cell (kc 2) (1, .inr (.inl f))) := hD.2.1 i _ ha
  have hcell : vp_cell (kc 2) (1, .inr (.inl f)) = vp_cell (kc 2) (1, .inr (.inl g)) := by
    rw [vp_cell_l, vp_cell_l]
    unfold arrV
    have e : (fun j : Fin 1 => Value.long (f j.val)) = fun j : Fin 1 => Value.long (g j.val) := by
      funext j
      have : j.val = 0 := by omega
      rw [this, hfg]
    exact congrArg (fun q : Fin 1 → Value => ({ cls := kc 2, slots := Array.ofFn q, vm := .none } : Cell)) e
  exact kk p l e1 s m args below meth c H locs ls ad kc D z A hF hC (hD.put hi hh rfl (hD.2.1.set hD.2.2.1 ha (by rw [hcell] at hat; exact hat) (fun _ _ => rfl)) (hD.2.2.1.set ha) hD.2.2.2.1)
theorem aw_out {T : ATy} {Q : AQ} {CX : AC} {pc : Nat} {lo : List (Option Value)} {st : List Value} {G : AG} {M : Nat → Nat → Int32} {n ce sl : Nat} {x : Int64} (hn : 72 ≤ n) (hd : decode T.2.1 pc = .ok (.lastore, 1)) (kk : AW T Q CX (pc + 1) lo st (wld (G.1, G.2.1, x) M) n ce sl) : AW T Q CX pc lo (.long x :: .int 0 :: .ref 71 :: st) (wld G M) n ce sl := by
  refine aw_last hd e_71 (l_71 hn) (in_of (show (0 : Int32) = nI 0 from rfl) (by decide) (by decide)) rfl ?_
  exact aw_eqL (g := fun _ => x) hset_s (l_71 hn) rfl (hset_2.trans hs71) kk
/-- how the law's helpers end: the number of what was thrown, the answer laid into out -/
def PLh (cd : Nat) (v : Int32) (G : AG) (M0 M1 : Nat → Nat → Int32) (n : Nat) : APost := fun o h' n' => n' = n ∧ o = .inl (some (.int (nI cd))) ∧ ∃ w M', h' = wld (G.1, G.2.1, w) M' ∧ (cd = 0 → w = v.toInt64 ∧ SEq M' M1) ∧ (¬ cd = 0 → SEq M' M0)
def PLv (cd : Nat) (G : AG) (M0 M1 : Nat → Nat → Int32) (n : Nat) : APost := fun o h' n' => n' = n ∧ o = .inl (some (.int (nI cd))) ∧ ∃ M', h' = wld G M' ∧ (cd = 0 → SEq M' M1) ∧ (¬ cd = 0 → SEq M' M0)
theorem kow_L_addClass : KOW yL_addClass cL_addClass 6 (some .int) [(0, 12, 15, 13), (0, 12, 19, 15)] 5 := ⟨gw_at 658 (by decide +kernel) rfl, gw_at 127 (by decide +kernel) rfl, by decide +kernel⟩
theorem hx_L_addClass_0 : HX RL [(0, 12, 15, 13), (0, 12, 19, 15)] 7 "java/lang/IllegalArgumentException" 15 := ⟨[], ⟨0, 12, 15, 13⟩, [⟨0, 12, 19, 15⟩], rfl, (fun _ h => by cases h), by decide, by decide, ⟨"java/lang/IllegalArgumentException", gw_at 659 (by decide +kernel) rfl, gw_at 670 (by decide +kernel) rfl⟩, rfl⟩
theorem hx_L_addClass_1 : HX RL [(0, 12, 15, 13), (0, 12, 19, 15)] 7 "java/lang/IllegalStateException" 19 := ⟨[⟨0, 12, 15, 13⟩], ⟨0, 12, 19, 15⟩, [], rfl, (List.forall_mem_cons.mpr ⟨Or.inr ⟨by decide, "java/lang/IllegalArgumentException", gw_at 659 (by decide +kernel) rfl, by decide +kernel⟩, (fun _ h => by cases h)⟩), by decide, by decide, ⟨"java/lang/IllegalStateException", gw_at 660 (by decide +kernel) rfl, gw_at 737 (by decide +kernel) rfl⟩, rfl⟩
set_option maxRecDepth 100000 in
set_option maxHeartbeats 4000000 in
theorem c_L_addClass {G : AG} {M : Nat → Nat → Int32} {n : Nat} (hn : 72 ≤ n) {nc ns nz nb nr t : Nat} (hI : CI M nc ns nz nb nr t)  (w s q : Int32) : AMet tL_addClass yL_addClass [Cond.codeWith yL_addClass cL_addClass 6 (some .int) [(0, 12, 15, 13), (0, 12, 19, 15)]] [.ref 0, .int w, .int s, .int q, .ref 71] (wld G M) n (PLh (cd_addClass M w s q) (nI nc) G M (addC M nc w s q) n) := by
  refine amet_ofH (lo := [_, _, _, _, _, _]) (by decide) rfl (fun q => by cases q) (ble' rfl) (by intro v hv; simp at hv; rcases hv with rfl | rfl | rfl | rfl | rfl <;> rfl) rfl ?_
  refine aw_aload dL_addClass_0 rfl ?_
  refine aw_iconst (v := 0) dL_addClass_2 (by decide) ?_
  refine aw_aload_n dL_addClass_3 rfl ?_
  refine aw_iload_n dL_addClass_4 rfl ?_
  refine aw_iload_n dL_addClass_5 rfl ?_
  refine aw_iload_n dL_addClass_6 rfl ?_
  refine aw_tryV (hh := [(0, 12, 15, 13), (0, 12, 19, 15)]) kw_L_7 kv_L_7.2.1 kv_L_7.2.2 ko_X9_addClass (c_X9_addClass hn hI w s q) dL_addClass_7 e_0 (l_0 hn) rfl rfl rfl rfl (ble' rfl) (by decide) (lc_r (by omega) (lc_i (lc_i (lc_i (lc_r (by omega) (lc_n lc_nil)))))) (sc_i (sc_r (by omega) sc_nil)) (fun E h' n' hp => ?_) (fun v h' n' hp _ _ => ?_)
  · obtain ⟨rfl, ⟨-, q, -⟩ | ⟨hc0, hE, M', rfl, hs⟩⟩ := hp
    · cases q
    · have hle : (cd_addClass M w s q) ≤ 2 := by unfold cd_addClass; (repeat' split) <;> decide
      rcases (show (cd_addClass M w s q) = 1 ∨ (cd_addClass M w s q) = 2 by omega) with q | q
      · rw [q] at hE
        cases hE
        refine ⟨15, hx_L_addClass_0, Or.inl ⟨5, dL_addClass_15, by decide, ?_⟩⟩
        refine aw_iconst (v := 1) dL_addClass_17 (by decide) ?_
        refine aw_iret rfl dL_addClass_18 (ble' rfl) (ble' rfl) ?_
        exact ⟨rfl, by rw [q]; rfl, G.2.2, M', rfl, fun w => absurd w hc0, fun _ => hs⟩
      · rw [q] at hE
        cases hE
        refine ⟨19, hx_L_addClass_1, Or.inl ⟨5, dL_addClass_19, by decide, ?_⟩⟩
        refine aw_iconst (v := 2) dL_addClass_21 (by decide) ?_
        refine aw_iret rfl dL_addClass_22 (ble' rfl) (ble' rfl) ?_
        exact ⟨rfl, by rw [q]; rfl, G.2.2, M', rfl, fun w => absurd w hc0, fun _ => hs⟩
  · obtain ⟨rfl, ⟨hc0, hv, M', rfl, hs⟩ | ⟨-, q, -⟩⟩ := hp
    · cases hv
      show AW _ _ _ _ _ (.int _ :: _) _ _ _ _
      refine aw_i2l dL_addClass_10 ?_
      refine aw_out hn dL_addClass_11 ?_
      refine aw_goto 23 dL_addClass_12 (by decide) ?_
      refine aw_iconst (v := 0) dL_addClass_23 (by decide) ?_
      refine aw_iret rfl dL_addClass_24 (ble' rfl) (ble' rfl) ?_
      exact ⟨rfl, by rw [hc0]; rfl, _, M', rfl, fun _ => ⟨rfl, hs⟩, fun w => absurd hc0 w⟩
    · cases q

theorem kow_L_addSite : KOW yL_addSite cL_addSite 4 (some .int) [(0, 9, 12, 21), (0, 9, 15, 15)] 3 := ⟨gw_at 754 (by decide +kernel) rfl, gw_at 127 (by decide +kernel) rfl, by decide +kernel⟩
theorem hx_L_addSite_0 : HX RL [(0, 9, 12, 21), (0, 9, 15, 15)] 4 "java/lang/IndexOutOfBoundsException" 12 := ⟨[], ⟨0, 9, 12, 21⟩, [⟨0, 9, 15, 15⟩], rfl, (fun _ h => by cases h), by decide, by decide, ⟨"java/lang/IndexOutOfBoundsException", gw_at 755 (by decide +kernel) rfl, gw_at 766 (by decide +kernel) rfl⟩, rfl⟩
theorem hx_L_addSite_1 : HX RL [(0, 9, 12, 21), (0, 9, 15, 15)] 4 "java/lang/IllegalStateException" 15 := ⟨[⟨0, 9, 12, 21⟩], ⟨0, 9, 15, 15⟩, [], rfl, (List.forall_mem_cons.mpr ⟨Or.inr ⟨by decide, "java/lang/IndexOutOfBoundsException", gw_at 755 (by decide +kernel) rfl, by decide +kernel⟩, (fun _ h => by cases h)⟩), by decide, by decide, ⟨"java/lang/IllegalStateException", gw_at 660 (by decide +kernel) rfl, gw_at 737 (by decide +kernel) rfl⟩, rfl⟩
set_option maxRecDepth 100000 in
set_option maxHeartbeats 4000000 in
theorem c_L_addSite {G : AG} {M : Nat → Nat → Int32} {n : Nat} (hn : 72 ≤ n) {nc ns nz nb nr t : Nat} (hI : CI M nc ns nz nb nr t)  (c : Int32) : AMet tL_addSite yL_addSite [Cond.codeWith yL_addSite cL_addSite 4 (some .int) [(0, 9, 12, 21), (0, 9, 15, 15)]] [.ref 0, .int c, .ref 71] (wld G M) n (PLh (cd_addSite M c) (nI ns) G M (addS M ns c) n) := by
  refine amet_ofH (lo := [_, _, _, _]) (by decide) rfl (fun q => by cases q) (ble' rfl) (by intro v hv; simp at hv; rcases hv with rfl | rfl | rfl <;> rfl) rfl ?_
  refine aw_aload_n dL_addSite_0 rfl ?_
  refine aw_iconst (v := 0) dL_addSite_1 (by decide) ?_
  refine aw_aload_n dL_addSite_2 rfl ?_
  refine aw_iload_n dL_addSite_3 rfl ?_
  refine aw_tryV (hh := [(0, 9, 12, 21), (0, 9, 15, 15)]) kw_L_17 kv_L_17.2.1 kv_L_17.2.2 ko_X9_addSite (c_X9_addSite hn hI c) dL_addSite_4 e_0 (l_0 hn) rfl rfl rfl rfl (ble' rfl) (by decide) (lc_r (by omega) (lc_i (lc_r (by omega) (lc_n lc_nil)))) (sc_i (sc_r (by omega) sc_nil)) (fun E h' n' hp => ?_) (fun v h' n' hp _ _ => ?_)
  · obtain ⟨rfl, ⟨-, q, -⟩ | ⟨hc0, hE, M', rfl, hs⟩⟩ := hp
    · cases q
    · have hle : (cd_addSite M c) ≤ 2 := by unfold cd_addSite; (repeat' split) <;> decide
      rcases (show (cd_addSite M c) = 1 ∨ (cd_addSite M c) = 2 by omega) with q | q
      · rw [q] at hE
        cases hE
        refine ⟨12, hx_L_addSite_0, Or.inr ⟨3, dL_addSite_12, by decide, ?_⟩⟩
        refine aw_iconst (v := 1) dL_addSite_13 (by decide) ?_
        refine aw_iret rfl dL_addSite_14 (ble' rfl) (ble' rfl) ?_
        exact ⟨rfl, by rw [q]; rfl, G.2.2, M', rfl, fun w => absurd w hc0, fun _ => hs⟩
      · rw [q] at hE
        cases hE
        refine ⟨15, hx_L_addSite_1, Or.inr ⟨3, dL_addSite_15, by decide, ?_⟩⟩
        refine aw_iconst (v := 2) dL_addSite_16 (by decide) ?_
        refine aw_iret rfl dL_addSite_17 (ble' rfl) (ble' rfl) ?_
        exact ⟨rfl, by rw [q]; rfl, G.2.2, M', rfl, fun w => absurd w hc0, fun _ => hs⟩
  · obtain ⟨rfl, ⟨hc0, hv, M', rfl, hs⟩ | ⟨-, q, -⟩⟩ := hp
    · cases hv
      show AW _ _ _ _ _ (.int _ :: _) _ _ _ _
      refine aw_i2l dL_addSite_7 ?_
      refine aw_out hn dL_addSite_8 ?_
      refine aw_goto 18 dL_addSite_9 (by decide) ?_
      refine aw_iconst (v := 0) dL_addSite_18 (by decide) ?_
      refine aw_iret rfl dL_addSite_19 (ble' rfl) (ble' rfl) ?_
      exact ⟨rfl, by rw [hc0]; rfl, _, M', rfl, fun _ => ⟨rfl, hs⟩, fun w => absurd hc0 w⟩
    · cases q

theorem kow_L_addSeason : KOW yL_addSeason cL_addSeason 8 (some .int) [(0, 16, 19, 21), (0, 16, 23, 13), (0, 16, 27, 15)] 7 := ⟨gw_at 784 (by decide +kernel) rfl, gw_at 127 (by decide +kernel) rfl, by decide +kernel⟩
theorem hx_L_addSeason_0 : HX RL [(0, 16, 19, 21), (0, 16, 23, 13), (0, 16, 27, 15)] 11 "java/lang/IndexOutOfBoundsException" 19 := ⟨[], ⟨0, 16, 19, 21⟩, [⟨0, 16, 23, 13⟩, ⟨0, 16, 27, 15⟩], rfl, (fun _ h => by cases h), by decide, by decide, ⟨"java/lang/IndexOutOfBoundsException", gw_at 755 (by decide +kernel) rfl, gw_at 766 (by decide +kernel) rfl⟩, rfl⟩
theorem hx_L_addSeason_1 : HX RL [(0, 16, 19, 21), (0, 16, 23, 13), (0, 16, 27, 15)] 11 "java/lang/IllegalArgumentException" 23 := ⟨[⟨0, 16, 19, 21⟩], ⟨0, 16, 23, 13⟩, [⟨0, 16, 27, 15⟩], rfl, (List.forall_mem_cons.mpr ⟨Or.inr ⟨by decide, "java/lang/IndexOutOfBoundsException", gw_at 755 (by decide +kernel) rfl, by decide +kernel⟩, (fun _ h => by cases h)⟩), by decide, by decide, ⟨"java/lang/IllegalArgumentException", gw_at 659 (by decide +kernel) rfl, gw_at 670 (by decide +kernel) rfl⟩, rfl⟩
theorem hx_L_addSeason_2 : HX RL [(0, 16, 19, 21), (0, 16, 23, 13), (0, 16, 27, 15)] 11 "java/lang/IllegalStateException" 27 := ⟨[⟨0, 16, 19, 21⟩, ⟨0, 16, 23, 13⟩], ⟨0, 16, 27, 15⟩, [], rfl, (List.forall_mem_cons.mpr ⟨Or.inr ⟨by decide, "java/lang/IndexOutOfBoundsException", gw_at 755 (by decide +kernel) rfl, by decide +kernel⟩, (List.forall_mem_cons.mpr ⟨Or.inr ⟨by decide, "java/lang/IllegalArgumentException", gw_at 659 (by decide +kernel) rfl, by decide +kernel⟩, (fun _ h => by cases h)⟩)⟩), by decide, by decide, ⟨"java/lang/IllegalStateException", gw_at 660 (by decide +kernel) rfl, gw_at 737 (by decide +kernel) rfl⟩, rfl⟩
set_option maxRecDepth 100000 in
set_option maxHeartbeats 4000000 in
theorem c_L_addSeason {G : AG} {M : Nat → Nat → Int32} {n : Nat} (hn : 72 ≤ n) {nc ns nz nb nr t : Nat} (hI : CI M nc ns nz nb nr t)  (c f l m p : Int32) : AMet tL_addSeason yL_addSeason [Cond.codeWith yL_addSeason cL_addSeason 8 (some .int) [(0, 16, 19, 21), (0, 16, 23, 13), (0, 16, 27, 15)]] [.ref 0, .int c, .int f, .int l, .int m, .int p, .ref 71] (wld G M) n (PLh (cd_addSeason M c f l m p) (nI nz) G M (addZ M nz c f l m p) n) := by
  refine amet_ofH (lo := [_, _, _, _, _, _, _, _]) (by decide) rfl (fun q => by cases q) (ble' rfl) (by intro v hv; simp at hv; rcases hv with rfl | rfl | rfl | rfl | rfl | rfl | rfl <;> rfl) rfl ?_
  refine aw_aload dL_addSeason_0 rfl ?_
  refine aw_iconst (v := 0) dL_addSeason_2 (by decide) ?_
  refine aw_aload_n dL_addSeason_3 rfl ?_
  refine aw_iload_n dL_addSeason_4 rfl ?_
  refine aw_iload_n dL_addSeason_5 rfl ?_
  refine aw_iload_n dL_addSeason_6 rfl ?_
  refine aw_iload dL_addSeason_7 rfl ?_
  refine aw_iload dL_addSeason_9 rfl ?_
  refine aw_tryV (hh := [(0, 16, 19, 21), (0, 16, 23, 13), (0, 16, 27, 15)]) kw_L_23 kv_L_23.2.1 kv_L_23.2.2 ko_X9_addSeason (c_X9_addSeason hn hI c f l m p) dL_addSeason_11 e_0 (l_0 hn) rfl rfl rfl rfl (ble' rfl) (by decide) (lc_r (by omega) (lc_i (lc_i (lc_i (lc_i (lc_i (lc_r (by omega) (lc_n lc_nil)))))))) (sc_i (sc_r (by omega) sc_nil)) (fun E h' n' hp => ?_) (fun v h' n' hp _ _ => ?_)
  · obtain ⟨rfl, ⟨-, q, -⟩ | ⟨hc0, hE, M', rfl, hs⟩⟩ := hp
    · cases q
    · have hle : (cd_addSeason M c f l m p) ≤ 3 := by unfold cd_addSeason; (repeat' split) <;> decide
      rcases (show (cd_addSeason M c f l m p) = 1 ∨ (cd_addSeason M c f l m p) = 2 ∨ (cd_addSeason M c f l m p) = 3 by omega) with q | q | q
      · rw [q] at hE
        cases hE
        refine ⟨19, hx_L_addSeason_0, Or.inl ⟨7, dL_addSeason_19, by decide, ?_⟩⟩
        refine aw_iconst (v := 1) dL_addSeason_21 (by decide) ?_
        refine aw_iret rfl dL_addSeason_22 (ble' rfl) (ble' rfl) ?_
        exact ⟨rfl, by rw [q]; rfl, G.2.2, M', rfl, fun w => absurd w hc0, fun _ => hs⟩
      · rw [q] at hE
        cases hE
        refine ⟨23, hx_L_addSeason_1, Or.inl ⟨7, dL_addSeason_23, by decide, ?_⟩⟩
        refine aw_iconst (v := 2) dL_addSeason_25 (by decide) ?_
        refine aw_iret rfl dL_addSeason_26 (ble' rfl) (ble' rfl) ?_
        exact ⟨rfl, by rw [q]; rfl, G.2.2, M', rfl, fun w => absurd w hc0, fun _ => hs⟩
      · rw [q] at hE
        cases hE
        refine ⟨27, hx_L_addSeason_2, Or.inl ⟨7, dL_addSeason_27, by decide, ?_⟩⟩
        refine aw_iconst (v := 3) dL_addSeason_29 (by decide) ?_
        refine aw_iret rfl dL_addSeason_30 (ble' rfl) (ble' rfl) ?_
        exact ⟨rfl, by rw [q]; rfl, G.2.2, M', rfl, fun w => absurd w hc0, fun _ => hs⟩
  · obtain ⟨rfl, ⟨hc0, hv, M', rfl, hs⟩ | ⟨-, q, -⟩⟩ := hp
    · cases hv
      show AW _ _ _ _ _ (.int _ :: _) _ _ _ _
      refine aw_i2l dL_addSeason_14 ?_
      refine aw_out hn dL_addSeason_15 ?_
      refine aw_goto 31 dL_addSeason_16 (by decide) ?_
      refine aw_iconst (v := 0) dL_addSeason_31 (by decide) ?_
      refine aw_iret rfl dL_addSeason_32 (ble' rfl) (ble' rfl) ?_
      exact ⟨rfl, by rw [hc0]; rfl, _, M', rfl, fun _ => ⟨rfl, hs⟩, fun w => absurd hc0 w⟩
    · cases q

theorem kow_L_classOf : KOW yL_classOf cL_classOf 4 (some .int) [(0, 9, 12, 21)] 3 := ⟨gw_at 793 (by decide +kernel) rfl, gw_at 127 (by decide +kernel) rfl, by decide +kernel⟩
theorem hx_L_classOf_0 : HX RL [(0, 9, 12, 21)] 4 "java/lang/IndexOutOfBoundsException" 12 := ⟨[], ⟨0, 9, 12, 21⟩, [], rfl, (fun _ h => by cases h), by decide, by decide, ⟨"java/lang/IndexOutOfBoundsException", gw_at 755 (by decide +kernel) rfl, gw_at 766 (by decide +kernel) rfl⟩, rfl⟩
set_option maxRecDepth 100000 in
set_option maxHeartbeats 4000000 in
theorem c_L_classOf {G : AG} {M : Nat → Nat → Int32} {n : Nat} (hn : 72 ≤ n) {nc ns nz nb nr t : Nat} (hI : CI M nc ns nz nb nr t)  (x : Int32) : AMet tL_classOf yL_classOf [Cond.codeWith yL_classOf cL_classOf 4 (some .int) [(0, 9, 12, 21)]] [.ref 0, .int x, .ref 71] (wld G M) n (PLh (cd_classOf M x) (M 7 x.toNatClampNeg) G M M n) := by
  refine amet_ofH (lo := [_, _, _, _]) (by decide) rfl (fun q => by cases q) (ble' rfl) (by intro v hv; simp at hv; rcases hv with rfl | rfl | rfl <;> rfl) rfl ?_
  refine aw_aload_n dL_classOf_0 rfl ?_
  refine aw_iconst (v := 0) dL_classOf_1 (by decide) ?_
  refine aw_aload_n dL_classOf_2 rfl ?_
  refine aw_iload_n dL_classOf_3 rfl ?_
  refine aw_tryV (hh := [(0, 9, 12, 21)]) kw_L_27 kv_L_27.2.1 kv_L_27.2.2 ko_X9_classOf (c_X9_classOf hn hI x) dL_classOf_4 e_0 (l_0 hn) rfl rfl rfl rfl (ble' rfl) (by decide) (lc_r (by omega) (lc_i (lc_r (by omega) (lc_n lc_nil)))) (sc_i (sc_r (by omega) sc_nil)) (fun E h' n' hp => ?_) (fun v h' n' hp _ _ => ?_)
  · obtain ⟨rfl, ⟨-, q, -⟩ | ⟨hc0, hE, M', rfl, hs⟩⟩ := hp
    · cases q
    · have hle : (cd_classOf M x) ≤ 1 := by unfold cd_classOf; (repeat' split) <;> decide
      rcases (show (cd_classOf M x) = 1 by omega) with q
      rw [q] at hE
      cases hE
      refine ⟨12, hx_L_classOf_0, Or.inr ⟨3, dL_classOf_12, by decide, ?_⟩⟩
      refine aw_iconst (v := 1) dL_classOf_13 (by decide) ?_
      refine aw_iret rfl dL_classOf_14 (ble' rfl) (ble' rfl) ?_
      exact ⟨rfl, by rw [q]; rfl, G.2.2, M', rfl, fun w => absurd w hc0, fun _ => hs⟩
  · obtain ⟨rfl, ⟨hc0, hv, M', rfl, hs⟩ | ⟨-, q, -⟩⟩ := hp
    · cases hv
      show AW _ _ _ _ _ (.int _ :: _) _ _ _ _
      refine aw_i2l dL_classOf_7 ?_
      refine aw_out hn dL_classOf_8 ?_
      refine aw_goto 15 dL_classOf_9 (by decide) ?_
      refine aw_iconst (v := 0) dL_classOf_15 (by decide) ?_
      refine aw_iret rfl dL_classOf_16 (ble' rfl) (ble' rfl) ?_
      exact ⟨rfl, by rw [hc0]; rfl, _, M', rfl, fun _ => ⟨rfl, hs⟩, fun w => absurd hc0 w⟩
    · cases q

theorem kow_L_minimum : KOW yL_minimum cL_minimum 5 (some .int) [(0, 10, 13, 21), (0, 10, 17, 13)] 4 := ⟨gw_at 805 (by decide +kernel) rfl, gw_at 127 (by decide +kernel) rfl, by decide +kernel⟩
theorem hx_L_minimum_0 : HX RL [(0, 10, 13, 21), (0, 10, 17, 13)] 5 "java/lang/IndexOutOfBoundsException" 13 := ⟨[], ⟨0, 10, 13, 21⟩, [⟨0, 10, 17, 13⟩], rfl, (fun _ h => by cases h), by decide, by decide, ⟨"java/lang/IndexOutOfBoundsException", gw_at 755 (by decide +kernel) rfl, gw_at 766 (by decide +kernel) rfl⟩, rfl⟩
theorem hx_L_minimum_1 : HX RL [(0, 10, 13, 21), (0, 10, 17, 13)] 5 "java/lang/IllegalArgumentException" 17 := ⟨[⟨0, 10, 13, 21⟩], ⟨0, 10, 17, 13⟩, [], rfl, (List.forall_mem_cons.mpr ⟨Or.inr ⟨by decide, "java/lang/IndexOutOfBoundsException", gw_at 755 (by decide +kernel) rfl, by decide +kernel⟩, (fun _ h => by cases h)⟩), by decide, by decide, ⟨"java/lang/IllegalArgumentException", gw_at 659 (by decide +kernel) rfl, gw_at 670 (by decide +kernel) rfl⟩, rfl⟩
set_option maxRecDepth 100000 in
set_option maxHeartbeats 4000000 in
theorem c_L_minimum {G : AG} {M : Nat → Nat → Int32} {n : Nat} (hn : 72 ≤ n) {nc ns nz nb nr t : Nat} (hI : CI M nc ns nz nb nr t)  (c d : Int32) : AMet tL_minimum yL_minimum [Cond.codeWith yL_minimum cL_minimum 5 (some .int) [(0, 10, 13, 21), (0, 10, 17, 13)]] [.ref 0, .int c, .int d, .ref 71] (wld G M) n (PLh (cd_minimum M c d) (sval (seasN (M 10) (M 11) (M 12) c d nz) (M 13) 1) G M M n) := by
  refine amet_ofH (lo := [_, _, _, _, _]) (by decide) rfl (fun q => by cases q) (ble' rfl) (by intro v hv; simp at hv; rcases hv with rfl | rfl | rfl | rfl <;> rfl) rfl ?_
  refine aw_aload_n dL_minimum_0 rfl ?_
  refine aw_iconst (v := 0) dL_minimum_1 (by decide) ?_
  refine aw_aload_n dL_minimum_2 rfl ?_
  refine aw_iload_n dL_minimum_3 rfl ?_
  refine aw_iload_n dL_minimum_4 rfl ?_
  refine aw_tryV (hh := [(0, 10, 13, 21), (0, 10, 17, 13)]) kw_L_30 kv_L_30.2.1 kv_L_30.2.2 ko_X9_minimum (c_X9_minimum hn hI c d) dL_minimum_5 e_0 (l_0 hn) rfl rfl rfl rfl (ble' rfl) (by decide) (lc_r (by omega) (lc_i (lc_i (lc_r (by omega) (lc_n lc_nil))))) (sc_i (sc_r (by omega) sc_nil)) (fun E h' n' hp => ?_) (fun v h' n' hp _ _ => ?_)
  · obtain ⟨rfl, ⟨-, q, -⟩ | ⟨hc0, hE, M', rfl, hs⟩⟩ := hp
    · cases q
    · have hle : (cd_minimum M c d) ≤ 2 := by unfold cd_minimum; (repeat' split) <;> decide
      rcases (show (cd_minimum M c d) = 1 ∨ (cd_minimum M c d) = 2 by omega) with q | q
      · rw [q] at hE
        cases hE
        refine ⟨13, hx_L_minimum_0, Or.inl ⟨4, dL_minimum_13, by decide, ?_⟩⟩
        refine aw_iconst (v := 1) dL_minimum_15 (by decide) ?_
        refine aw_iret rfl dL_minimum_16 (ble' rfl) (ble' rfl) ?_
        exact ⟨rfl, by rw [q]; rfl, G.2.2, M', rfl, fun w => absurd w hc0, fun _ => hs⟩
      · rw [q] at hE
        cases hE
        refine ⟨17, hx_L_minimum_1, Or.inl ⟨4, dL_minimum_17, by decide, ?_⟩⟩
        refine aw_iconst (v := 2) dL_minimum_19 (by decide) ?_
        refine aw_iret rfl dL_minimum_20 (ble' rfl) (ble' rfl) ?_
        exact ⟨rfl, by rw [q]; rfl, G.2.2, M', rfl, fun w => absurd w hc0, fun _ => hs⟩
  · obtain ⟨rfl, ⟨hc0, hv, M', rfl, hs⟩ | ⟨-, q, -⟩⟩ := hp
    · cases hv
      show AW _ _ _ _ _ (.int _ :: _) _ _ _ _
      refine aw_i2l dL_minimum_8 ?_
      refine aw_out hn dL_minimum_9 ?_
      refine aw_goto 21 dL_minimum_10 (by decide) ?_
      refine aw_iconst (v := 0) dL_minimum_21 (by decide) ?_
      refine aw_iret rfl dL_minimum_22 (ble' rfl) (ble' rfl) ?_
      exact ⟨rfl, by rw [hc0]; rfl, _, M', rfl, fun _ => ⟨rfl, hs⟩, fun w => absurd hc0 w⟩
    · cases q

theorem kow_L_price : KOW yL_price cL_price 5 (some .int) [(0, 10, 13, 21), (0, 10, 17, 13)] 4 := ⟨gw_at 820 (by decide +kernel) rfl, gw_at 127 (by decide +kernel) rfl, by decide +kernel⟩
theorem hx_L_price_0 : HX RL [(0, 10, 13, 21), (0, 10, 17, 13)] 5 "java/lang/IndexOutOfBoundsException" 13 := ⟨[], ⟨0, 10, 13, 21⟩, [⟨0, 10, 17, 13⟩], rfl, (fun _ h => by cases h), by decide, by decide, ⟨"java/lang/IndexOutOfBoundsException", gw_at 755 (by decide +kernel) rfl, gw_at 766 (by decide +kernel) rfl⟩, rfl⟩
theorem hx_L_price_1 : HX RL [(0, 10, 13, 21), (0, 10, 17, 13)] 5 "java/lang/IllegalArgumentException" 17 := ⟨[⟨0, 10, 13, 21⟩], ⟨0, 10, 17, 13⟩, [], rfl, (List.forall_mem_cons.mpr ⟨Or.inr ⟨by decide, "java/lang/IndexOutOfBoundsException", gw_at 755 (by decide +kernel) rfl, by decide +kernel⟩, (fun _ h => by cases h)⟩), by decide, by decide, ⟨"java/lang/IllegalArgumentException", gw_at 659 (by decide +kernel) rfl, gw_at 670 (by decide +kernel) rfl⟩, rfl⟩
set_option maxRecDepth 100000 in
set_option maxHeartbeats 4000000 in
theorem c_L_price {G : AG} {M : Nat → Nat → Int32} {n : Nat} (hn : 72 ≤ n) {nc ns nz nb nr t : Nat} (hI : CI M nc ns nz nb nr t)  (c d : Int32) : AMet tL_price yL_price [Cond.codeWith yL_price cL_price 5 (some .int) [(0, 10, 13, 21), (0, 10, 17, 13)]] [.ref 0, .int c, .int d, .ref 71] (wld G M) n (PLh (cd_price M c d) (sval (seasN (M 10) (M 11) (M 12) c d nz) (M 14) 20) G M M n) := by
  refine amet_ofH (lo := [_, _, _, _, _]) (by decide) rfl (fun q => by cases q) (ble' rfl) (by intro v hv; simp at hv; rcases hv with rfl | rfl | rfl | rfl <;> rfl) rfl ?_
  refine aw_aload_n dL_price_0 rfl ?_
  refine aw_iconst (v := 0) dL_price_1 (by decide) ?_
  refine aw_aload_n dL_price_2 rfl ?_
  refine aw_iload_n dL_price_3 rfl ?_
  refine aw_iload_n dL_price_4 rfl ?_
  refine aw_tryV (hh := [(0, 10, 13, 21), (0, 10, 17, 13)]) kw_L_34 kv_L_34.2.1 kv_L_34.2.2 ko_X9_price (c_X9_price hn hI c d) dL_price_5 e_0 (l_0 hn) rfl rfl rfl rfl (ble' rfl) (by decide) (lc_r (by omega) (lc_i (lc_i (lc_r (by omega) (lc_n lc_nil))))) (sc_i (sc_r (by omega) sc_nil)) (fun E h' n' hp => ?_) (fun v h' n' hp _ _ => ?_)
  · obtain ⟨rfl, ⟨-, q, -⟩ | ⟨hc0, hE, M', rfl, hs⟩⟩ := hp
    · cases q
    · have hle : (cd_price M c d) ≤ 2 := by unfold cd_price; (repeat' split) <;> decide
      rcases (show (cd_price M c d) = 1 ∨ (cd_price M c d) = 2 by omega) with q | q
      · rw [q] at hE
        cases hE
        refine ⟨13, hx_L_price_0, Or.inl ⟨4, dL_price_13, by decide, ?_⟩⟩
        refine aw_iconst (v := 1) dL_price_15 (by decide) ?_
        refine aw_iret rfl dL_price_16 (ble' rfl) (ble' rfl) ?_
        exact ⟨rfl, by rw [q]; rfl, G.2.2, M', rfl, fun w => absurd w hc0, fun _ => hs⟩
      · rw [q] at hE
        cases hE
        refine ⟨17, hx_L_price_1, Or.inl ⟨4, dL_price_17, by decide, ?_⟩⟩
        refine aw_iconst (v := 2) dL_price_19 (by decide) ?_
        refine aw_iret rfl dL_price_20 (ble' rfl) (ble' rfl) ?_
        exact ⟨rfl, by rw [q]; rfl, G.2.2, M', rfl, fun w => absurd w hc0, fun _ => hs⟩
  · obtain ⟨rfl, ⟨hc0, hv, M', rfl, hs⟩ | ⟨-, q, -⟩⟩ := hp
    · cases hv
      show AW _ _ _ _ _ (.int _ :: _) _ _ _ _
      refine aw_i2l dL_price_8 ?_
      refine aw_out hn dL_price_9 ?_
      refine aw_goto 21 dL_price_10 (by decide) ?_
      refine aw_iconst (v := 0) dL_price_21 (by decide) ?_
      refine aw_iret rfl dL_price_22 (ble' rfl) (ble' rfl) ?_
      exact ⟨rfl, by rw [hc0]; rfl, _, M', rfl, fun _ => ⟨rfl, hs⟩, fun w => absurd hc0 w⟩
    · cases q

theorem kow_L_capacity : KOW yL_capacity cL_capacity 5 (some .int) [(0, 10, 13, 21)] 4 := ⟨gw_at 831 (by decide +kernel) rfl, gw_at 127 (by decide +kernel) rfl, by decide +kernel⟩
theorem hx_L_capacity_0 : HX RL [(0, 10, 13, 21)] 5 "java/lang/IndexOutOfBoundsException" 13 := ⟨[], ⟨0, 10, 13, 21⟩, [], rfl, (fun _ h => by cases h), by decide, by decide, ⟨"java/lang/IndexOutOfBoundsException", gw_at 755 (by decide +kernel) rfl, gw_at 766 (by decide +kernel) rfl⟩, rfl⟩
set_option maxRecDepth 100000 in
set_option maxHeartbeats 4000000 in
theorem c_L_capacity {G : AG} {M : Nat → Nat → Int32} {n : Nat} (hn : 72 ≤ n) {nc ns nz nb nr t : Nat} (hI : CI M nc ns nz nb nr t)  (c d : Int32) : AMet tL_capacity yL_capacity [Cond.codeWith yL_capacity cL_capacity 5 (some .int) [(0, 10, 13, 21)]] [.ref 0, .int c, .int d, .ref 71] (wld G M) n (PLh (cd_capacity M c d) (capF (M 1 5) (nI (cnt (opB (M 7) (M 8) c d) ns)) d) G M M n) := by
  refine amet_ofH (lo := [_, _, _, _, _]) (by decide) rfl (fun q => by cases q) (ble' rfl) (by intro v hv; simp at hv; rcases hv with rfl | rfl | rfl | rfl <;> rfl) rfl ?_
  refine aw_aload_n dL_capacity_0 rfl ?_
  refine aw_iconst (v := 0) dL_capacity_1 (by decide) ?_
  refine aw_aload_n dL_capacity_2 rfl ?_
  refine aw_iload_n dL_capacity_3 rfl ?_
  refine aw_iload_n dL_capacity_4 rfl ?_
  refine aw_tryV (hh := [(0, 10, 13, 21)]) kw_L_37 kv_L_37.2.1 kv_L_37.2.2 ko_X9_capacity (c_X9_capacity hn hI c d) dL_capacity_5 e_0 (l_0 hn) rfl rfl rfl rfl (ble' rfl) (by decide) (lc_r (by omega) (lc_i (lc_i (lc_r (by omega) (lc_n lc_nil))))) (sc_i (sc_r (by omega) sc_nil)) (fun E h' n' hp => ?_) (fun v h' n' hp _ _ => ?_)
  · obtain ⟨rfl, ⟨-, q, -⟩ | ⟨hc0, hE, M', rfl, hs⟩⟩ := hp
    · cases q
    · have hle : (cd_capacity M c d) ≤ 1 := by unfold cd_capacity; (repeat' split) <;> decide
      rcases (show (cd_capacity M c d) = 1 by omega) with q
      rw [q] at hE
      cases hE
      refine ⟨13, hx_L_capacity_0, Or.inl ⟨4, dL_capacity_13, by decide, ?_⟩⟩
      refine aw_iconst (v := 1) dL_capacity_15 (by decide) ?_
      refine aw_iret rfl dL_capacity_16 (ble' rfl) (ble' rfl) ?_
      exact ⟨rfl, by rw [q]; rfl, G.2.2, M', rfl, fun w => absurd w hc0, fun _ => hs⟩
  · obtain ⟨rfl, ⟨hc0, hv, M', rfl, hs⟩ | ⟨-, q, -⟩⟩ := hp
    · cases hv
      show AW _ _ _ _ _ (.int _ :: _) _ _ _ _
      refine aw_i2l dL_capacity_8 ?_
      refine aw_out hn dL_capacity_9 ?_
      refine aw_goto 17 dL_capacity_10 (by decide) ?_
      refine aw_iconst (v := 0) dL_capacity_17 (by decide) ?_
      refine aw_iret rfl dL_capacity_18 (ble' rfl) (ble' rfl) ?_
      exact ⟨rfl, by rw [hc0]; rfl, _, M', rfl, fun _ => ⟨rfl, hs⟩, fun w => absurd hc0 w⟩
    · cases q

theorem kow_L_released : KOW yL_released cL_released 5 (some .int) [(0, 10, 13, 21)] 4 := ⟨gw_at 846 (by decide +kernel) rfl, gw_at 127 (by decide +kernel) rfl, by decide +kernel⟩
theorem hx_L_released_0 : HX RL [(0, 10, 13, 21)] 5 "java/lang/IndexOutOfBoundsException" 13 := ⟨[], ⟨0, 10, 13, 21⟩, [], rfl, (fun _ h => by cases h), by decide, by decide, ⟨"java/lang/IndexOutOfBoundsException", gw_at 755 (by decide +kernel) rfl, gw_at 766 (by decide +kernel) rfl⟩, rfl⟩
set_option maxRecDepth 100000 in
set_option maxHeartbeats 4000000 in
theorem c_L_released {G : AG} {M : Nat → Nat → Int32} {n : Nat} (hn : 72 ≤ n) {nc ns nz nb nr t : Nat} (hI : CI M nc ns nz nb nr t)  (c d : Int32) : AMet tL_released yL_released [Cond.codeWith yL_released cL_released 5 (some .int) [(0, 10, 13, 21)]] [.ref 0, .int c, .int d, .ref 71] (wld G M) n (PLh (cd_released M c d) (relC (M 1 5) (M 3 c.toNatClampNeg) (M 4 c.toNatClampNeg) (M 5 c.toNatClampNeg) (nI (cnt (opB (M 7) (M 8) c d) ns)) d) G M M n) := by
  refine amet_ofH (lo := [_, _, _, _, _]) (by decide) rfl (fun q => by cases q) (ble' rfl) (by intro v hv; simp at hv; rcases hv with rfl | rfl | rfl | rfl <;> rfl) rfl ?_
  refine aw_aload_n dL_released_0 rfl ?_
  refine aw_iconst (v := 0) dL_released_1 (by decide) ?_
  refine aw_aload_n dL_released_2 rfl ?_
  refine aw_iload_n dL_released_3 rfl ?_
  refine aw_iload_n dL_released_4 rfl ?_
  refine aw_tryV (hh := [(0, 10, 13, 21)]) kw_L_40 kv_L_40.2.1 kv_L_40.2.2 ko_X9_released (c_X9_released hn hI c d) dL_released_5 e_0 (l_0 hn) rfl rfl rfl rfl (ble' rfl) (by decide) (lc_r (by omega) (lc_i (lc_i (lc_r (by omega) (lc_n lc_nil))))) (sc_i (sc_r (by omega) sc_nil)) (fun E h' n' hp => ?_) (fun v h' n' hp _ _ => ?_)
  · obtain ⟨rfl, ⟨-, q, -⟩ | ⟨hc0, hE, M', rfl, hs⟩⟩ := hp
    · cases q
    · have hle : (cd_released M c d) ≤ 1 := by unfold cd_released; (repeat' split) <;> decide
      rcases (show (cd_released M c d) = 1 by omega) with q
      rw [q] at hE
      cases hE
      refine ⟨13, hx_L_released_0, Or.inl ⟨4, dL_released_13, by decide, ?_⟩⟩
      refine aw_iconst (v := 1) dL_released_15 (by decide) ?_
      refine aw_iret rfl dL_released_16 (ble' rfl) (ble' rfl) ?_
      exact ⟨rfl, by rw [q]; rfl, G.2.2, M', rfl, fun w => absurd w hc0, fun _ => hs⟩
  · obtain ⟨rfl, ⟨hc0, hv, M', rfl, hs⟩ | ⟨-, q, -⟩⟩ := hp
    · cases hv
      show AW _ _ _ _ _ (.int _ :: _) _ _ _ _
      refine aw_i2l dL_released_8 ?_
      refine aw_out hn dL_released_9 ?_
      refine aw_goto 17 dL_released_10 (by decide) ?_
      refine aw_iconst (v := 0) dL_released_17 (by decide) ?_
      refine aw_iret rfl dL_released_18 (ble' rfl) (ble' rfl) ?_
      exact ⟨rfl, by rw [hc0]; rfl, _, M', rfl, fun _ => ⟨rfl, hs⟩, fun w => absurd hc0 w⟩
    · cases q

theorem kow_L_taken : KOW yL_taken cL_taken 5 (some .int) [(0, 10, 13, 21)] 4 := ⟨gw_at 862 (by decide +kernel) rfl, gw_at 127 (by decide +kernel) rfl, by decide +kernel⟩
theorem hx_L_taken_0 : HX RL [(0, 10, 13, 21)] 5 "java/lang/IndexOutOfBoundsException" 13 := ⟨[], ⟨0, 10, 13, 21⟩, [], rfl, (fun _ h => by cases h), by decide, by decide, ⟨"java/lang/IndexOutOfBoundsException", gw_at 755 (by decide +kernel) rfl, gw_at 766 (by decide +kernel) rfl⟩, rfl⟩
set_option maxRecDepth 100000 in
set_option maxHeartbeats 4000000 in
theorem c_L_taken {G : AG} {M : Nat → Nat → Int32} {n : Nat} (hn : 72 ≤ n) {nc ns nz nb nr t : Nat} (hI : CI M nc ns nz nb nr t)  (c d : Int32) : AMet tL_taken yL_taken [Cond.codeWith yL_taken cL_taken 5 (some .int) [(0, 10, 13, 21)]] [.ref 0, .int c, .int d, .ref 71] (wld G M) n (PLh (cd_taken M c d) (nI (cnt (tkB (M 16) (M 17) (M 18) (M 20) c d) nb)) G M M n) := by
  refine amet_ofH (lo := [_, _, _, _, _]) (by decide) rfl (fun q => by cases q) (ble' rfl) (by intro v hv; simp at hv; rcases hv with rfl | rfl | rfl | rfl <;> rfl) rfl ?_
  refine aw_aload_n dL_taken_0 rfl ?_
  refine aw_iconst (v := 0) dL_taken_1 (by decide) ?_
  refine aw_aload_n dL_taken_2 rfl ?_
  refine aw_iload_n dL_taken_3 rfl ?_
  refine aw_iload_n dL_taken_4 rfl ?_
  refine aw_tryV (hh := [(0, 10, 13, 21)]) kw_L_43 kv_L_43.2.1 kv_L_43.2.2 ko_X9_taken (c_X9_taken hn hI c d) dL_taken_5 e_0 (l_0 hn) rfl rfl rfl rfl (ble' rfl) (by decide) (lc_r (by omega) (lc_i (lc_i (lc_r (by omega) (lc_n lc_nil))))) (sc_i (sc_r (by omega) sc_nil)) (fun E h' n' hp => ?_) (fun v h' n' hp _ _ => ?_)
  · obtain ⟨rfl, ⟨-, q, -⟩ | ⟨hc0, hE, M', rfl, hs⟩⟩ := hp
    · cases q
    · have hle : (cd_taken M c d) ≤ 1 := by unfold cd_taken; (repeat' split) <;> decide
      rcases (show (cd_taken M c d) = 1 by omega) with q
      rw [q] at hE
      cases hE
      refine ⟨13, hx_L_taken_0, Or.inl ⟨4, dL_taken_13, by decide, ?_⟩⟩
      refine aw_iconst (v := 1) dL_taken_15 (by decide) ?_
      refine aw_iret rfl dL_taken_16 (ble' rfl) (ble' rfl) ?_
      exact ⟨rfl, by rw [q]; rfl, G.2.2, M', rfl, fun w => absurd w hc0, fun _ => hs⟩
  · obtain ⟨rfl, ⟨hc0, hv, M', rfl, hs⟩ | ⟨-, q, -⟩⟩ := hp
    · cases hv
      show AW _ _ _ _ _ (.int _ :: _) _ _ _ _
      refine aw_i2l dL_taken_8 ?_
      refine aw_out hn dL_taken_9 ?_
      refine aw_goto 17 dL_taken_10 (by decide) ?_
      refine aw_iconst (v := 0) dL_taken_17 (by decide) ?_
      refine aw_iret rfl dL_taken_18 (ble' rfl) (ble' rfl) ?_
      exact ⟨rfl, by rw [hc0]; rfl, _, M', rfl, fun _ => ⟨rfl, hs⟩, fun w => absurd hc0 w⟩
    · cases q

theorem kow_L_available : KOW yL_available cL_available 5 (some .int) [(0, 10, 13, 21)] 4 := ⟨gw_at 877 (by decide +kernel) rfl, gw_at 127 (by decide +kernel) rfl, by decide +kernel⟩
theorem hx_L_available_0 : HX RL [(0, 10, 13, 21)] 5 "java/lang/IndexOutOfBoundsException" 13 := ⟨[], ⟨0, 10, 13, 21⟩, [], rfl, (fun _ h => by cases h), by decide, by decide, ⟨"java/lang/IndexOutOfBoundsException", gw_at 755 (by decide +kernel) rfl, gw_at 766 (by decide +kernel) rfl⟩, rfl⟩
set_option maxRecDepth 100000 in
set_option maxHeartbeats 4000000 in
theorem c_L_available {G : AG} {M : Nat → Nat → Int32} {n : Nat} (hn : 72 ≤ n) {nc ns nz nb nr t : Nat} (hI : CI M nc ns nz nb nr t)  (c d : Int32) : AMet tL_available yL_available [Cond.codeWith yL_available cL_available 5 (some .int) [(0, 10, 13, 21)]] [.ref 0, .int c, .int d, .ref 71] (wld G M) n (PLh (cd_available M c d) (if (relC (M 1 5) (M 3 c.toNatClampNeg) (M 4 c.toNatClampNeg) (M 5 c.toNatClampNeg) (nI (cnt (opB (M 7) (M 8) c d) ns)) d) - (nI (cnt (tkB (M 16) (M 17) (M 18) (M 20) c d) nb)) < 0 then 0 else (relC (M 1 5) (M 3 c.toNatClampNeg) (M 4 c.toNatClampNeg) (M 5 c.toNatClampNeg) (nI (cnt (opB (M 7) (M 8) c d) ns)) d) - (nI (cnt (tkB (M 16) (M 17) (M 18) (M 20) c d) nb))) G M M n) := by
  refine amet_ofH (lo := [_, _, _, _, _]) (by decide) rfl (fun q => by cases q) (ble' rfl) (by intro v hv; simp at hv; rcases hv with rfl | rfl | rfl | rfl <;> rfl) rfl ?_
  refine aw_aload_n dL_available_0 rfl ?_
  refine aw_iconst (v := 0) dL_available_1 (by decide) ?_
  refine aw_aload_n dL_available_2 rfl ?_
  refine aw_iload_n dL_available_3 rfl ?_
  refine aw_iload_n dL_available_4 rfl ?_
  refine aw_tryV (hh := [(0, 10, 13, 21)]) kw_L_46 kv_L_46.2.1 kv_L_46.2.2 ko_X9_available (c_X9_available hn hI c d) dL_available_5 e_0 (l_0 hn) rfl rfl rfl rfl (ble' rfl) (by decide) (lc_r (by omega) (lc_i (lc_i (lc_r (by omega) (lc_n lc_nil))))) (sc_i (sc_r (by omega) sc_nil)) (fun E h' n' hp => ?_) (fun v h' n' hp _ _ => ?_)
  · obtain ⟨rfl, ⟨-, q, -⟩ | ⟨hc0, hE, M', rfl, hs⟩⟩ := hp
    · cases q
    · have hle : (cd_available M c d) ≤ 1 := by unfold cd_available; (repeat' split) <;> decide
      rcases (show (cd_available M c d) = 1 by omega) with q
      rw [q] at hE
      cases hE
      refine ⟨13, hx_L_available_0, Or.inl ⟨4, dL_available_13, by decide, ?_⟩⟩
      refine aw_iconst (v := 1) dL_available_15 (by decide) ?_
      refine aw_iret rfl dL_available_16 (ble' rfl) (ble' rfl) ?_
      exact ⟨rfl, by rw [q]; rfl, G.2.2, M', rfl, fun w => absurd w hc0, fun _ => hs⟩
  · obtain ⟨rfl, ⟨hc0, hv, M', rfl, hs⟩ | ⟨-, q, -⟩⟩ := hp
    · cases hv
      show AW _ _ _ _ _ (.int _ :: _) _ _ _ _
      refine aw_i2l dL_available_8 ?_
      refine aw_out hn dL_available_9 ?_
      refine aw_goto 17 dL_available_10 (by decide) ?_
      refine aw_iconst (v := 0) dL_available_17 (by decide) ?_
      refine aw_iret rfl dL_available_18 (ble' rfl) (ble' rfl) ?_
      exact ⟨rfl, by rw [hc0]; rfl, _, M', rfl, fun _ => ⟨rfl, hs⟩, fun w => absurd hc0 w⟩
    · cases q

theorem kow_L_obstacle : KOW yL_obstacle cL_obstacle 6 (some .int) [(0, 12, 15, 21), (0, 12, 19, 13)] 5 := ⟨gw_at 887 (by decide +kernel) rfl, gw_at 127 (by decide +kernel) rfl, by decide +kernel⟩
theorem hx_L_obstacle_0 : HX RL [(0, 12, 15, 21), (0, 12, 19, 13)] 7 "java/lang/IndexOutOfBoundsException" 15 := ⟨[], ⟨0, 12, 15, 21⟩, [⟨0, 12, 19, 13⟩], rfl, (fun _ h => by cases h), by decide, by decide, ⟨"java/lang/IndexOutOfBoundsException", gw_at 755 (by decide +kernel) rfl, gw_at 766 (by decide +kernel) rfl⟩, rfl⟩
theorem hx_L_obstacle_1 : HX RL [(0, 12, 15, 21), (0, 12, 19, 13)] 7 "java/lang/IllegalArgumentException" 19 := ⟨[⟨0, 12, 15, 21⟩], ⟨0, 12, 19, 13⟩, [], rfl, (List.forall_mem_cons.mpr ⟨Or.inr ⟨by decide, "java/lang/IndexOutOfBoundsException", gw_at 755 (by decide +kernel) rfl, by decide +kernel⟩, (fun _ h => by cases h)⟩), by decide, by decide, ⟨"java/lang/IllegalArgumentException", gw_at 659 (by decide +kernel) rfl, gw_at 670 (by decide +kernel) rfl⟩, rfl⟩
set_option maxRecDepth 100000 in
set_option maxHeartbeats 4000000 in
theorem c_L_obstacle {G : AG} {M : Nat → Nat → Int32} {n : Nat} (hn : 72 ≤ n) {nc ns nz nb nr t : Nat} (hI : CI M nc ns nz nb nr t)  (c a m : Int32) : AMet tL_obstacle yL_obstacle [Cond.codeWith yL_obstacle cL_obstacle 6 (some .int) [(0, 12, 15, 21), (0, 12, 19, 13)]] [.ref 0, .int c, .int a, .int m, .ref 71] (wld G M) n (PLh (cd_obstacle M c a m) (obsC M ns nb nz c a m) G M M n) := by
  refine amet_ofH (lo := [_, _, _, _, _, _]) (by decide) rfl (fun q => by cases q) (ble' rfl) (by intro v hv; simp at hv; rcases hv with rfl | rfl | rfl | rfl | rfl <;> rfl) rfl ?_
  refine aw_aload dL_obstacle_0 rfl ?_
  refine aw_iconst (v := 0) dL_obstacle_2 (by decide) ?_
  refine aw_aload_n dL_obstacle_3 rfl ?_
  refine aw_iload_n dL_obstacle_4 rfl ?_
  refine aw_iload_n dL_obstacle_5 rfl ?_
  refine aw_iload_n dL_obstacle_6 rfl ?_
  refine aw_tryV (hh := [(0, 12, 15, 21), (0, 12, 19, 13)]) kw_L_49 kv_L_49.2.1 kv_L_49.2.2 ko_X9_obstacle (c_X9_obstacle hn hI c a m) dL_obstacle_7 e_0 (l_0 hn) rfl rfl rfl rfl (ble' rfl) (by decide) (lc_r (by omega) (lc_i (lc_i (lc_i (lc_r (by omega) (lc_n lc_nil)))))) (sc_i (sc_r (by omega) sc_nil)) (fun E h' n' hp => ?_) (fun v h' n' hp _ _ => ?_)
  · obtain ⟨rfl, ⟨-, q, -⟩ | ⟨hc0, hE, M', rfl, hs⟩⟩ := hp
    · cases q
    · have hle : (cd_obstacle M c a m) ≤ 2 := by unfold cd_obstacle; (repeat' split) <;> decide
      rcases (show (cd_obstacle M c a m) = 1 ∨ (cd_obstacle M c a m) = 2 by omega) with q | q
      · rw [q] at hE
        cases hE
        refine ⟨15, hx_L_obstacle_0, Or.inl ⟨5, dL_obstacle_15, by decide, ?_⟩⟩
        refine aw_iconst (v := 1) dL_obstacle_17 (by decide) ?_
        refine aw_iret rfl dL_obstacle_18 (ble' rfl) (ble' rfl) ?_
        exact ⟨rfl, by rw [q]; rfl, G.2.2, M', rfl, fun w => absurd w hc0, fun _ => hs⟩
      · rw [q] at hE
        cases hE
        refine ⟨19, hx_L_obstacle_1, Or.inl ⟨5, dL_obstacle_19, by decide, ?_⟩⟩
        refine aw_iconst (v := 2) dL_obstacle_21 (by decide) ?_
        refine aw_iret rfl dL_obstacle_22 (ble' rfl) (ble' rfl) ?_
        exact ⟨rfl, by rw [q]; rfl, G.2.2, M', rfl, fun w => absurd w hc0, fun _ => hs⟩
  · obtain ⟨rfl, ⟨hc0, hv, M', rfl, hs⟩ | ⟨-, q, -⟩⟩ := hp
    · cases hv
      show AW _ _ _ _ _ (.int _ :: _) _ _ _ _
      refine aw_i2l dL_obstacle_10 ?_
      refine aw_out hn dL_obstacle_11 ?_
      refine aw_goto 23 dL_obstacle_12 (by decide) ?_
      refine aw_iconst (v := 0) dL_obstacle_23 (by decide) ?_
      refine aw_iret rfl dL_obstacle_24 (ble' rfl) (ble' rfl) ?_
      exact ⟨rfl, by rw [hc0]; rfl, _, M', rfl, fun _ => ⟨rfl, hs⟩, fun w => absurd hc0 w⟩
    · cases q

theorem kow_L_longestStay : KOW yL_longestStay cL_longestStay 5 (some .int) [(0, 10, 13, 21)] 4 := ⟨gw_at 924 (by decide +kernel) rfl, gw_at 127 (by decide +kernel) rfl, by decide +kernel⟩
theorem hx_L_longestStay_0 : HX RL [(0, 10, 13, 21)] 5 "java/lang/IndexOutOfBoundsException" 13 := ⟨[], ⟨0, 10, 13, 21⟩, [], rfl, (fun _ h => by cases h), by decide, by decide, ⟨"java/lang/IndexOutOfBoundsException", gw_at 755 (by decide +kernel) rfl, gw_at 766 (by decide +kernel) rfl⟩, rfl⟩
set_option maxRecDepth 100000 in
set_option maxHeartbeats 4000000 in
theorem c_L_longestStay {G : AG} {M : Nat → Nat → Int32} {n : Nat} (hn : 72 ≤ n) {nc ns nz nb nr t : Nat} (hI : CI M nc ns nz nb nr t)  (c a : Int32) : AMet tL_longestStay yL_longestStay [Cond.codeWith yL_longestStay cL_longestStay 5 (some .int) [(0, 10, 13, 21)]] [.ref 0, .int c, .int a, .ref 71] (wld G M) n (PLh (cd_longestStay M c a) (lngN (fun m => obsC M ns nb nz c a m) 28) G M M n) := by
  refine amet_ofH (lo := [_, _, _, _, _]) (by decide) rfl (fun q => by cases q) (ble' rfl) (by intro v hv; simp at hv; rcases hv with rfl | rfl | rfl | rfl <;> rfl) rfl ?_
  refine aw_aload_n dL_longestStay_0 rfl ?_
  refine aw_iconst (v := 0) dL_longestStay_1 (by decide) ?_
  refine aw_aload_n dL_longestStay_2 rfl ?_
  refine aw_iload_n dL_longestStay_3 rfl ?_
  refine aw_iload_n dL_longestStay_4 rfl ?_
  refine aw_tryV (hh := [(0, 10, 13, 21)]) kw_L_52 kv_L_52.2.1 kv_L_52.2.2 ko_X9_longestStay (c_X9_longestStay hn hI c a) dL_longestStay_5 e_0 (l_0 hn) rfl rfl rfl rfl (ble' rfl) (by decide) (lc_r (by omega) (lc_i (lc_i (lc_r (by omega) (lc_n lc_nil))))) (sc_i (sc_r (by omega) sc_nil)) (fun E h' n' hp => ?_) (fun v h' n' hp _ _ => ?_)
  · obtain ⟨rfl, ⟨-, q, -⟩ | ⟨hc0, hE, M', rfl, hs⟩⟩ := hp
    · cases q
    · have hle : (cd_longestStay M c a) ≤ 1 := by unfold cd_longestStay; (repeat' split) <;> decide
      rcases (show (cd_longestStay M c a) = 1 by omega) with q
      rw [q] at hE
      cases hE
      refine ⟨13, hx_L_longestStay_0, Or.inl ⟨4, dL_longestStay_13, by decide, ?_⟩⟩
      refine aw_iconst (v := 1) dL_longestStay_15 (by decide) ?_
      refine aw_iret rfl dL_longestStay_16 (ble' rfl) (ble' rfl) ?_
      exact ⟨rfl, by rw [q]; rfl, G.2.2, M', rfl, fun w => absurd w hc0, fun _ => hs⟩
  · obtain ⟨rfl, ⟨hc0, hv, M', rfl, hs⟩ | ⟨-, q, -⟩⟩ := hp
    · cases hv
      show AW _ _ _ _ _ (.int _ :: _) _ _ _ _
      refine aw_i2l dL_longestStay_8 ?_
      refine aw_out hn dL_longestStay_9 ?_
      refine aw_goto 17 dL_longestStay_10 (by decide) ?_
      refine aw_iconst (v := 0) dL_longestStay_17 (by decide) ?_
      refine aw_iret rfl dL_longestStay_18 (ble' rfl) (ble' rfl) ?_
      exact ⟨rfl, by rw [hc0]; rfl, _, M', rfl, fun _ => ⟨rfl, hs⟩, fun w => absurd hc0 w⟩
    · cases q

theorem kow_L_cheapestArrival : KOW yL_cheapestArrival cL_cheapestArrival 7 (some .int) [(0, 14, 17, 21), (0, 14, 21, 13)] 6 := ⟨gw_at 931 (by decide +kernel) rfl, gw_at 127 (by decide +kernel) rfl, by decide +kernel⟩
theorem hx_L_cheapestArrival_0 : HX RL [(0, 14, 17, 21), (0, 14, 21, 13)] 9 "java/lang/IndexOutOfBoundsException" 17 := ⟨[], ⟨0, 14, 17, 21⟩, [⟨0, 14, 21, 13⟩], rfl, (fun _ h => by cases h), by decide, by decide, ⟨"java/lang/IndexOutOfBoundsException", gw_at 755 (by decide +kernel) rfl, gw_at 766 (by decide +kernel) rfl⟩, rfl⟩
theorem hx_L_cheapestArrival_1 : HX RL [(0, 14, 17, 21), (0, 14, 21, 13)] 9 "java/lang/IllegalArgumentException" 21 := ⟨[⟨0, 14, 17, 21⟩], ⟨0, 14, 21, 13⟩, [], rfl, (List.forall_mem_cons.mpr ⟨Or.inr ⟨by decide, "java/lang/IndexOutOfBoundsException", gw_at 755 (by decide +kernel) rfl, by decide +kernel⟩, (fun _ h => by cases h)⟩), by decide, by decide, ⟨"java/lang/IllegalArgumentException", gw_at 659 (by decide +kernel) rfl, gw_at 670 (by decide +kernel) rfl⟩, rfl⟩
set_option maxRecDepth 100000 in
set_option maxHeartbeats 4000000 in
theorem c_L_cheapestArrival {G : AG} {M : Nat → Nat → Int32} {n : Nat} (hn : 72 ≤ n) {nc ns nz nb nr t : Nat} (hI : CI M nc ns nz nb nr t)  (c m f l : Int32) : AMet tL_cheapestArrival yL_cheapestArrival [Cond.codeWith yL_cheapestArrival cL_cheapestArrival 7 (some .int) [(0, 14, 17, 21), (0, 14, 21, 13)]] [.ref 0, .int c, .int m, .int f, .int l, .ref 71] (wld G M) n (PLh (cd_cheapestArrival M c m f l) (chpN (fun i => decide (obsC M ns nb nz c (nI i) m = 0)) (fun i => psum (prM M nz c) i m.toNatClampNeg) f.toNatClampNeg (l.toNatClampNeg + 1 - f.toNatClampNeg)).1 G M M n) := by
  refine amet_ofH (lo := [_, _, _, _, _, _, _]) (by decide) rfl (fun q => by cases q) (ble' rfl) (by intro v hv; simp at hv; rcases hv with rfl | rfl | rfl | rfl | rfl | rfl <;> rfl) rfl ?_
  refine aw_aload dL_cheapestArrival_0 rfl ?_
  refine aw_iconst (v := 0) dL_cheapestArrival_2 (by decide) ?_
  refine aw_aload_n dL_cheapestArrival_3 rfl ?_
  refine aw_iload_n dL_cheapestArrival_4 rfl ?_
  refine aw_iload_n dL_cheapestArrival_5 rfl ?_
  refine aw_iload_n dL_cheapestArrival_6 rfl ?_
  refine aw_iload dL_cheapestArrival_7 rfl ?_
  refine aw_tryV (hh := [(0, 14, 17, 21), (0, 14, 21, 13)]) kw_L_55 kv_L_55.2.1 kv_L_55.2.2 ko_X9_cheapestArrival (c_X9_cheapestArrival hn hI c m f l) dL_cheapestArrival_9 e_0 (l_0 hn) rfl rfl rfl rfl (ble' rfl) (by decide) (lc_r (by omega) (lc_i (lc_i (lc_i (lc_i (lc_r (by omega) (lc_n lc_nil))))))) (sc_i (sc_r (by omega) sc_nil)) (fun E h' n' hp => ?_) (fun v h' n' hp _ _ => ?_)
  · obtain ⟨rfl, ⟨-, q, -⟩ | ⟨hc0, hE, M', rfl, hs⟩⟩ := hp
    · cases q
    · have hle : (cd_cheapestArrival M c m f l) ≤ 2 := by unfold cd_cheapestArrival; (repeat' split) <;> decide
      rcases (show (cd_cheapestArrival M c m f l) = 1 ∨ (cd_cheapestArrival M c m f l) = 2 by omega) with q | q
      · rw [q] at hE
        cases hE
        refine ⟨17, hx_L_cheapestArrival_0, Or.inl ⟨6, dL_cheapestArrival_17, by decide, ?_⟩⟩
        refine aw_iconst (v := 1) dL_cheapestArrival_19 (by decide) ?_
        refine aw_iret rfl dL_cheapestArrival_20 (ble' rfl) (ble' rfl) ?_
        exact ⟨rfl, by rw [q]; rfl, G.2.2, M', rfl, fun w => absurd w hc0, fun _ => hs⟩
      · rw [q] at hE
        cases hE
        refine ⟨21, hx_L_cheapestArrival_1, Or.inl ⟨6, dL_cheapestArrival_21, by decide, ?_⟩⟩
        refine aw_iconst (v := 2) dL_cheapestArrival_23 (by decide) ?_
        refine aw_iret rfl dL_cheapestArrival_24 (ble' rfl) (ble' rfl) ?_
        exact ⟨rfl, by rw [q]; rfl, G.2.2, M', rfl, fun w => absurd w hc0, fun _ => hs⟩
  · obtain ⟨rfl, ⟨hc0, hv, M', rfl, hs⟩ | ⟨-, q, -⟩⟩ := hp
    · cases hv
      show AW _ _ _ _ _ (.int _ :: _) _ _ _ _
      refine aw_i2l dL_cheapestArrival_12 ?_
      refine aw_out hn dL_cheapestArrival_13 ?_
      refine aw_goto 25 dL_cheapestArrival_14 (by decide) ?_
      refine aw_iconst (v := 0) dL_cheapestArrival_25 (by decide) ?_
      refine aw_iret rfl dL_cheapestArrival_26 (ble' rfl) (ble' rfl) ?_
      exact ⟨rfl, by rw [hc0]; rfl, _, M', rfl, fun _ => ⟨rfl, hs⟩, fun w => absurd hc0 w⟩
    · cases q

theorem kow_L_nextGap : KOW yL_nextGap cL_nextGap 5 (some .int) [(0, 10, 13, 21), (0, 10, 17, 13)] 4 := ⟨gw_at 943 (by decide +kernel) rfl, gw_at 127 (by decide +kernel) rfl, by decide +kernel⟩
theorem hx_L_nextGap_0 : HX RL [(0, 10, 13, 21), (0, 10, 17, 13)] 5 "java/lang/IndexOutOfBoundsException" 13 := ⟨[], ⟨0, 10, 13, 21⟩, [⟨0, 10, 17, 13⟩], rfl, (fun _ h => by cases h), by decide, by decide, ⟨"java/lang/IndexOutOfBoundsException", gw_at 755 (by decide +kernel) rfl, gw_at 766 (by decide +kernel) rfl⟩, rfl⟩
theorem hx_L_nextGap_1 : HX RL [(0, 10, 13, 21), (0, 10, 17, 13)] 5 "java/lang/IllegalArgumentException" 17 := ⟨[⟨0, 10, 13, 21⟩], ⟨0, 10, 17, 13⟩, [], rfl, (List.forall_mem_cons.mpr ⟨Or.inr ⟨by decide, "java/lang/IndexOutOfBoundsException", gw_at 755 (by decide +kernel) rfl, by decide +kernel⟩, (fun _ h => by cases h)⟩), by decide, by decide, ⟨"java/lang/IllegalArgumentException", gw_at 659 (by decide +kernel) rfl, gw_at 670 (by decide +kernel) rfl⟩, rfl⟩
set_option maxRecDepth 100000 in
set_option maxHeartbeats 4000000 in
theorem c_L_nextGap {G : AG} {M : Nat → Nat → Int32} {n : Nat} (hn : 72 ≤ n) {nc ns nz nb nr t : Nat} (hI : CI M nc ns nz nb nr t)  (c f : Int32) : AMet tL_nextGap yL_nextGap [Cond.codeWith yL_nextGap cL_nextGap 5 (some .int) [(0, 10, 13, 21), (0, 10, 17, 13)]] [.ref 0, .int c, .int f, .ref 71] (wld G M) n (PLh (cd_nextGap M c f) (gapN (fun i => frM M ns nb c (nI i) && !frM M ns nb c (nI i - 1)) f.toNatClampNeg (999 - f.toNatClampNeg)) G M M n) := by
  refine amet_ofH (lo := [_, _, _, _, _]) (by decide) rfl (fun q => by cases q) (ble' rfl) (by intro v hv; simp at hv; rcases hv with rfl | rfl | rfl | rfl <;> rfl) rfl ?_
  refine aw_aload_n dL_nextGap_0 rfl ?_
  refine aw_iconst (v := 0) dL_nextGap_1 (by decide) ?_
  refine aw_aload_n dL_nextGap_2 rfl ?_
  refine aw_iload_n dL_nextGap_3 rfl ?_
  refine aw_iload_n dL_nextGap_4 rfl ?_
  refine aw_tryV (hh := [(0, 10, 13, 21), (0, 10, 17, 13)]) kw_L_59 kv_L_59.2.1 kv_L_59.2.2 ko_X9_nextGap (c_X9_nextGap hn hI c f) dL_nextGap_5 e_0 (l_0 hn) rfl rfl rfl rfl (ble' rfl) (by decide) (lc_r (by omega) (lc_i (lc_i (lc_r (by omega) (lc_n lc_nil))))) (sc_i (sc_r (by omega) sc_nil)) (fun E h' n' hp => ?_) (fun v h' n' hp _ _ => ?_)
  · obtain ⟨rfl, ⟨-, q, -⟩ | ⟨hc0, hE, M', rfl, hs⟩⟩ := hp
    · cases q
    · have hle : (cd_nextGap M c f) ≤ 2 := by unfold cd_nextGap; (repeat' split) <;> decide
      rcases (show (cd_nextGap M c f) = 1 ∨ (cd_nextGap M c f) = 2 by omega) with q | q
      · rw [q] at hE
        cases hE
        refine ⟨13, hx_L_nextGap_0, Or.inl ⟨4, dL_nextGap_13, by decide, ?_⟩⟩
        refine aw_iconst (v := 1) dL_nextGap_15 (by decide) ?_
        refine aw_iret rfl dL_nextGap_16 (ble' rfl) (ble' rfl) ?_
        exact ⟨rfl, by rw [q]; rfl, G.2.2, M', rfl, fun w => absurd w hc0, fun _ => hs⟩
      · rw [q] at hE
        cases hE
        refine ⟨17, hx_L_nextGap_1, Or.inl ⟨4, dL_nextGap_17, by decide, ?_⟩⟩
        refine aw_iconst (v := 2) dL_nextGap_19 (by decide) ?_
        refine aw_iret rfl dL_nextGap_20 (ble' rfl) (ble' rfl) ?_
        exact ⟨rfl, by rw [q]; rfl, G.2.2, M', rfl, fun w => absurd w hc0, fun _ => hs⟩
  · obtain ⟨rfl, ⟨hc0, hv, M', rfl, hs⟩ | ⟨-, q, -⟩⟩ := hp
    · cases hv
      show AW _ _ _ _ _ (.int _ :: _) _ _ _ _
      refine aw_i2l dL_nextGap_8 ?_
      refine aw_out hn dL_nextGap_9 ?_
      refine aw_goto 21 dL_nextGap_10 (by decide) ?_
      refine aw_iconst (v := 0) dL_nextGap_21 (by decide) ?_
      refine aw_iret rfl dL_nextGap_22 (ble' rfl) (ble' rfl) ?_
      exact ⟨rfl, by rw [hc0]; rfl, _, M', rfl, fun _ => ⟨rfl, hs⟩, fun w => absurd hc0 w⟩
    · cases q

theorem kow_L_book : KOW yL_book cL_book 6 (some .int) [(0, 12, 15, 21), (0, 12, 19, 13), (0, 12, 23, 15)] 5 := ⟨gw_at 951 (by decide +kernel) rfl, gw_at 127 (by decide +kernel) rfl, by decide +kernel⟩
theorem hx_L_book_0 : HX RL [(0, 12, 15, 21), (0, 12, 19, 13), (0, 12, 23, 15)] 7 "java/lang/IndexOutOfBoundsException" 15 := ⟨[], ⟨0, 12, 15, 21⟩, [⟨0, 12, 19, 13⟩, ⟨0, 12, 23, 15⟩], rfl, (fun _ h => by cases h), by decide, by decide, ⟨"java/lang/IndexOutOfBoundsException", gw_at 755 (by decide +kernel) rfl, gw_at 766 (by decide +kernel) rfl⟩, rfl⟩
theorem hx_L_book_1 : HX RL [(0, 12, 15, 21), (0, 12, 19, 13), (0, 12, 23, 15)] 7 "java/lang/IllegalArgumentException" 19 := ⟨[⟨0, 12, 15, 21⟩], ⟨0, 12, 19, 13⟩, [⟨0, 12, 23, 15⟩], rfl, (List.forall_mem_cons.mpr ⟨Or.inr ⟨by decide, "java/lang/IndexOutOfBoundsException", gw_at 755 (by decide +kernel) rfl, by decide +kernel⟩, (fun _ h => by cases h)⟩), by decide, by decide, ⟨"java/lang/IllegalArgumentException", gw_at 659 (by decide +kernel) rfl, gw_at 670 (by decide +kernel) rfl⟩, rfl⟩
theorem hx_L_book_2 : HX RL [(0, 12, 15, 21), (0, 12, 19, 13), (0, 12, 23, 15)] 7 "java/lang/IllegalStateException" 23 := ⟨[⟨0, 12, 15, 21⟩, ⟨0, 12, 19, 13⟩], ⟨0, 12, 23, 15⟩, [], rfl, (List.forall_mem_cons.mpr ⟨Or.inr ⟨by decide, "java/lang/IndexOutOfBoundsException", gw_at 755 (by decide +kernel) rfl, by decide +kernel⟩, (List.forall_mem_cons.mpr ⟨Or.inr ⟨by decide, "java/lang/IllegalArgumentException", gw_at 659 (by decide +kernel) rfl, by decide +kernel⟩, (fun _ h => by cases h)⟩)⟩), by decide, by decide, ⟨"java/lang/IllegalStateException", gw_at 660 (by decide +kernel) rfl, gw_at 737 (by decide +kernel) rfl⟩, rfl⟩
set_option maxRecDepth 100000 in
set_option maxHeartbeats 4000000 in
theorem c_L_book {G : AG} {M : Nat → Nat → Int32} {n : Nat} (hn : 72 ≤ n) {nc ns nz nb nr t : Nat} (hI : CI M nc ns nz nb nr t)  (c a m : Int32) : AMet tL_book yL_book [Cond.codeWith yL_book cL_book 6 (some .int) [(0, 12, 15, 21), (0, 12, 19, 13), (0, 12, 23, 15)]] [.ref 0, .int c, .int a, .int m, .ref 71] (wld G M) n (PLh (cd_book M c a m) (nI nb) G M (addB M nb c a (a + m) (psum (prM M nz c) a.toNatClampNeg m.toNatClampNeg)) n) := by
  refine amet_ofH (lo := [_, _, _, _, _, _]) (by decide) rfl (fun q => by cases q) (ble' rfl) (by intro v hv; simp at hv; rcases hv with rfl | rfl | rfl | rfl | rfl <;> rfl) rfl ?_
  refine aw_aload dL_book_0 rfl ?_
  refine aw_iconst (v := 0) dL_book_2 (by decide) ?_
  refine aw_aload_n dL_book_3 rfl ?_
  refine aw_iload_n dL_book_4 rfl ?_
  refine aw_iload_n dL_book_5 rfl ?_
  refine aw_iload_n dL_book_6 rfl ?_
  refine aw_tryV (hh := [(0, 12, 15, 21), (0, 12, 19, 13), (0, 12, 23, 15)]) kw_L_62 kv_L_62.2.1 kv_L_62.2.2 ko_X9_book (c_X9_book hn hI c a m) dL_book_7 e_0 (l_0 hn) rfl rfl rfl rfl (ble' rfl) (by decide) (lc_r (by omega) (lc_i (lc_i (lc_i (lc_r (by omega) (lc_n lc_nil)))))) (sc_i (sc_r (by omega) sc_nil)) (fun E h' n' hp => ?_) (fun v h' n' hp _ _ => ?_)
  · obtain ⟨rfl, ⟨-, q, -⟩ | ⟨hc0, hE, M', rfl, hs⟩⟩ := hp
    · cases q
    · have hle : (cd_book M c a m) ≤ 3 := by unfold cd_book; (repeat' split) <;> decide
      rcases (show (cd_book M c a m) = 1 ∨ (cd_book M c a m) = 2 ∨ (cd_book M c a m) = 3 by omega) with q | q | q
      · rw [q] at hE
        cases hE
        refine ⟨15, hx_L_book_0, Or.inl ⟨5, dL_book_15, by decide, ?_⟩⟩
        refine aw_iconst (v := 1) dL_book_17 (by decide) ?_
        refine aw_iret rfl dL_book_18 (ble' rfl) (ble' rfl) ?_
        exact ⟨rfl, by rw [q]; rfl, G.2.2, M', rfl, fun w => absurd w hc0, fun _ => hs⟩
      · rw [q] at hE
        cases hE
        refine ⟨19, hx_L_book_1, Or.inl ⟨5, dL_book_19, by decide, ?_⟩⟩
        refine aw_iconst (v := 2) dL_book_21 (by decide) ?_
        refine aw_iret rfl dL_book_22 (ble' rfl) (ble' rfl) ?_
        exact ⟨rfl, by rw [q]; rfl, G.2.2, M', rfl, fun w => absurd w hc0, fun _ => hs⟩
      · rw [q] at hE
        cases hE
        refine ⟨23, hx_L_book_2, Or.inl ⟨5, dL_book_23, by decide, ?_⟩⟩
        refine aw_iconst (v := 3) dL_book_25 (by decide) ?_
        refine aw_iret rfl dL_book_26 (ble' rfl) (ble' rfl) ?_
        exact ⟨rfl, by rw [q]; rfl, G.2.2, M', rfl, fun w => absurd w hc0, fun _ => hs⟩
  · obtain ⟨rfl, ⟨hc0, hv, M', rfl, hs⟩ | ⟨-, q, -⟩⟩ := hp
    · cases hv
      show AW _ _ _ _ _ (.int _ :: _) _ _ _ _
      refine aw_i2l dL_book_10 ?_
      refine aw_out hn dL_book_11 ?_
      refine aw_goto 27 dL_book_12 (by decide) ?_
      refine aw_iconst (v := 0) dL_book_27 (by decide) ?_
      refine aw_iret rfl dL_book_28 (ble' rfl) (ble' rfl) ?_
      exact ⟨rfl, by rw [hc0]; rfl, _, M', rfl, fun _ => ⟨rfl, hs⟩, fun w => absurd hc0 w⟩
    · cases q

theorem kow_L_bookingState : KOW yL_bookingState cL_bookingState 4 (some .int) [(0, 9, 12, 21)] 3 := ⟨gw_at 972 (by decide +kernel) rfl, gw_at 127 (by decide +kernel) rfl, by decide +kernel⟩
theorem hx_L_bookingState_0 : HX RL [(0, 9, 12, 21)] 4 "java/lang/IndexOutOfBoundsException" 12 := ⟨[], ⟨0, 9, 12, 21⟩, [], rfl, (fun _ h => by cases h), by decide, by decide, ⟨"java/lang/IndexOutOfBoundsException", gw_at 755 (by decide +kernel) rfl, gw_at 766 (by decide +kernel) rfl⟩, rfl⟩
set_option maxRecDepth 100000 in
set_option maxHeartbeats 4000000 in
theorem c_L_bookingState {G : AG} {M : Nat → Nat → Int32} {n : Nat} (hn : 72 ≤ n) {nc ns nz nb nr t : Nat} (hI : CI M nc ns nz nb nr t)  (x : Int32) : AMet tL_bookingState yL_bookingState [Cond.codeWith yL_bookingState cL_bookingState 4 (some .int) [(0, 9, 12, 21)]] [.ref 0, .int x, .ref 71] (wld G M) n (PLh (cd_bookingState M x) (M 20 x.toNatClampNeg) G M M n) := by
  refine amet_ofH (lo := [_, _, _, _]) (by decide) rfl (fun q => by cases q) (ble' rfl) (by intro v hv; simp at hv; rcases hv with rfl | rfl | rfl <;> rfl) rfl ?_
  refine aw_aload_n dL_bookingState_0 rfl ?_
  refine aw_iconst (v := 0) dL_bookingState_1 (by decide) ?_
  refine aw_aload_n dL_bookingState_2 rfl ?_
  refine aw_iload_n dL_bookingState_3 rfl ?_
  refine aw_tryV (hh := [(0, 9, 12, 21)]) kw_L_65 kv_L_65.2.1 kv_L_65.2.2 ko_X9_bookingState (c_X9_bookingState hn hI x) dL_bookingState_4 e_0 (l_0 hn) rfl rfl rfl rfl (ble' rfl) (by decide) (lc_r (by omega) (lc_i (lc_r (by omega) (lc_n lc_nil)))) (sc_i (sc_r (by omega) sc_nil)) (fun E h' n' hp => ?_) (fun v h' n' hp _ _ => ?_)
  · obtain ⟨rfl, ⟨-, q, -⟩ | ⟨hc0, hE, M', rfl, hs⟩⟩ := hp
    · cases q
    · have hle : (cd_bookingState M x) ≤ 1 := by unfold cd_bookingState; (repeat' split) <;> decide
      rcases (show (cd_bookingState M x) = 1 by omega) with q
      rw [q] at hE
      cases hE
      refine ⟨12, hx_L_bookingState_0, Or.inr ⟨3, dL_bookingState_12, by decide, ?_⟩⟩
      refine aw_iconst (v := 1) dL_bookingState_13 (by decide) ?_
      refine aw_iret rfl dL_bookingState_14 (ble' rfl) (ble' rfl) ?_
      exact ⟨rfl, by rw [q]; rfl, G.2.2, M', rfl, fun w => absurd w hc0, fun _ => hs⟩
  · obtain ⟨rfl, ⟨hc0, hv, M', rfl, hs⟩ | ⟨-, q, -⟩⟩ := hp
    · cases hv
      show AW _ _ _ _ _ (.int _ :: _) _ _ _ _
      refine aw_i2l dL_bookingState_7 ?_
      refine aw_out hn dL_bookingState_8 ?_
      refine aw_goto 15 dL_bookingState_9 (by decide) ?_
      refine aw_iconst (v := 0) dL_bookingState_15 (by decide) ?_
      refine aw_iret rfl dL_bookingState_16 (ble' rfl) (ble' rfl) ?_
      exact ⟨rfl, by rw [hc0]; rfl, _, M', rfl, fun _ => ⟨rfl, hs⟩, fun w => absurd hc0 w⟩
    · cases q

theorem kow_L_bookingClass : KOW yL_bookingClass cL_bookingClass 4 (some .int) [(0, 9, 12, 21)] 3 := ⟨gw_at 984 (by decide +kernel) rfl, gw_at 127 (by decide +kernel) rfl, by decide +kernel⟩
theorem hx_L_bookingClass_0 : HX RL [(0, 9, 12, 21)] 4 "java/lang/IndexOutOfBoundsException" 12 := ⟨[], ⟨0, 9, 12, 21⟩, [], rfl, (fun _ h => by cases h), by decide, by decide, ⟨"java/lang/IndexOutOfBoundsException", gw_at 755 (by decide +kernel) rfl, gw_at 766 (by decide +kernel) rfl⟩, rfl⟩
set_option maxRecDepth 100000 in
set_option maxHeartbeats 4000000 in
theorem c_L_bookingClass {G : AG} {M : Nat → Nat → Int32} {n : Nat} (hn : 72 ≤ n) {nc ns nz nb nr t : Nat} (hI : CI M nc ns nz nb nr t)  (x : Int32) : AMet tL_bookingClass yL_bookingClass [Cond.codeWith yL_bookingClass cL_bookingClass 4 (some .int) [(0, 9, 12, 21)]] [.ref 0, .int x, .ref 71] (wld G M) n (PLh (cd_bookingClass M x) (M 16 x.toNatClampNeg) G M M n) := by
  refine amet_ofH (lo := [_, _, _, _]) (by decide) rfl (fun q => by cases q) (ble' rfl) (by intro v hv; simp at hv; rcases hv with rfl | rfl | rfl <;> rfl) rfl ?_
  refine aw_aload_n dL_bookingClass_0 rfl ?_
  refine aw_iconst (v := 0) dL_bookingClass_1 (by decide) ?_
  refine aw_aload_n dL_bookingClass_2 rfl ?_
  refine aw_iload_n dL_bookingClass_3 rfl ?_
  refine aw_tryV (hh := [(0, 9, 12, 21)]) kw_L_68 kv_L_68.2.1 kv_L_68.2.2 ko_X9_bookingClass (c_X9_bookingClass hn hI x) dL_bookingClass_4 e_0 (l_0 hn) rfl rfl rfl rfl (ble' rfl) (by decide) (lc_r (by omega) (lc_i (lc_r (by omega) (lc_n lc_nil)))) (sc_i (sc_r (by omega) sc_nil)) (fun E h' n' hp => ?_) (fun v h' n' hp _ _ => ?_)
  · obtain ⟨rfl, ⟨-, q, -⟩ | ⟨hc0, hE, M', rfl, hs⟩⟩ := hp
    · cases q
    · have hle : (cd_bookingClass M x) ≤ 1 := by unfold cd_bookingClass; (repeat' split) <;> decide
      rcases (show (cd_bookingClass M x) = 1 by omega) with q
      rw [q] at hE
      cases hE
      refine ⟨12, hx_L_bookingClass_0, Or.inr ⟨3, dL_bookingClass_12, by decide, ?_⟩⟩
      refine aw_iconst (v := 1) dL_bookingClass_13 (by decide) ?_
      refine aw_iret rfl dL_bookingClass_14 (ble' rfl) (ble' rfl) ?_
      exact ⟨rfl, by rw [q]; rfl, G.2.2, M', rfl, fun w => absurd w hc0, fun _ => hs⟩
  · obtain ⟨rfl, ⟨hc0, hv, M', rfl, hs⟩ | ⟨-, q, -⟩⟩ := hp
    · cases hv
      show AW _ _ _ _ _ (.int _ :: _) _ _ _ _
      refine aw_i2l dL_bookingClass_7 ?_
      refine aw_out hn dL_bookingClass_8 ?_
      refine aw_goto 15 dL_bookingClass_9 (by decide) ?_
      refine aw_iconst (v := 0) dL_bookingClass_15 (by decide) ?_
      refine aw_iret rfl dL_bookingClass_16 (ble' rfl) (ble' rfl) ?_
      exact ⟨rfl, by rw [hc0]; rfl, _, M', rfl, fun _ => ⟨rfl, hs⟩, fun w => absurd hc0 w⟩
    · cases q

theorem kow_L_arrival : KOW yL_arrival cL_arrival 4 (some .int) [(0, 9, 12, 21)] 3 := ⟨gw_at 991 (by decide +kernel) rfl, gw_at 127 (by decide +kernel) rfl, by decide +kernel⟩
theorem hx_L_arrival_0 : HX RL [(0, 9, 12, 21)] 4 "java/lang/IndexOutOfBoundsException" 12 := ⟨[], ⟨0, 9, 12, 21⟩, [], rfl, (fun _ h => by cases h), by decide, by decide, ⟨"java/lang/IndexOutOfBoundsException", gw_at 755 (by decide +kernel) rfl, gw_at 766 (by decide +kernel) rfl⟩, rfl⟩
set_option maxRecDepth 100000 in
set_option maxHeartbeats 4000000 in
theorem c_L_arrival {G : AG} {M : Nat → Nat → Int32} {n : Nat} (hn : 72 ≤ n) {nc ns nz nb nr t : Nat} (hI : CI M nc ns nz nb nr t)  (x : Int32) : AMet tL_arrival yL_arrival [Cond.codeWith yL_arrival cL_arrival 4 (some .int) [(0, 9, 12, 21)]] [.ref 0, .int x, .ref 71] (wld G M) n (PLh (cd_arrival M x) (M 17 x.toNatClampNeg) G M M n) := by
  refine amet_ofH (lo := [_, _, _, _]) (by decide) rfl (fun q => by cases q) (ble' rfl) (by intro v hv; simp at hv; rcases hv with rfl | rfl | rfl <;> rfl) rfl ?_
  refine aw_aload_n dL_arrival_0 rfl ?_
  refine aw_iconst (v := 0) dL_arrival_1 (by decide) ?_
  refine aw_aload_n dL_arrival_2 rfl ?_
  refine aw_iload_n dL_arrival_3 rfl ?_
  refine aw_tryV (hh := [(0, 9, 12, 21)]) kw_L_71 kv_L_71.2.1 kv_L_71.2.2 ko_X9_arrival (c_X9_arrival hn hI x) dL_arrival_4 e_0 (l_0 hn) rfl rfl rfl rfl (ble' rfl) (by decide) (lc_r (by omega) (lc_i (lc_r (by omega) (lc_n lc_nil)))) (sc_i (sc_r (by omega) sc_nil)) (fun E h' n' hp => ?_) (fun v h' n' hp _ _ => ?_)
  · obtain ⟨rfl, ⟨-, q, -⟩ | ⟨hc0, hE, M', rfl, hs⟩⟩ := hp
    · cases q
    · have hle : (cd_arrival M x) ≤ 1 := by unfold cd_arrival; (repeat' split) <;> decide
      rcases (show (cd_arrival M x) = 1 by omega) with q
      rw [q] at hE
      cases hE
      refine ⟨12, hx_L_arrival_0, Or.inr ⟨3, dL_arrival_12, by decide, ?_⟩⟩
      refine aw_iconst (v := 1) dL_arrival_13 (by decide) ?_
      refine aw_iret rfl dL_arrival_14 (ble' rfl) (ble' rfl) ?_
      exact ⟨rfl, by rw [q]; rfl, G.2.2, M', rfl, fun w => absurd w hc0, fun _ => hs⟩
  · obtain ⟨rfl, ⟨hc0, hv, M', rfl, hs⟩ | ⟨-, q, -⟩⟩ := hp
    · cases hv
      show AW _ _ _ _ _ (.int _ :: _) _ _ _ _
      refine aw_i2l dL_arrival_7 ?_
      refine aw_out hn dL_arrival_8 ?_
      refine aw_goto 15 dL_arrival_9 (by decide) ?_
      refine aw_iconst (v := 0) dL_arrival_15 (by decide) ?_
      refine aw_iret rfl dL_arrival_16 (ble' rfl) (ble' rfl) ?_
      exact ⟨rfl, by rw [hc0]; rfl, _, M', rfl, fun _ => ⟨rfl, hs⟩, fun w => absurd hc0 w⟩
    · cases q

theorem kow_L_departure : KOW yL_departure cL_departure 4 (some .int) [(0, 9, 12, 21)] 3 := ⟨gw_at 998 (by decide +kernel) rfl, gw_at 127 (by decide +kernel) rfl, by decide +kernel⟩
theorem hx_L_departure_0 : HX RL [(0, 9, 12, 21)] 4 "java/lang/IndexOutOfBoundsException" 12 := ⟨[], ⟨0, 9, 12, 21⟩, [], rfl, (fun _ h => by cases h), by decide, by decide, ⟨"java/lang/IndexOutOfBoundsException", gw_at 755 (by decide +kernel) rfl, gw_at 766 (by decide +kernel) rfl⟩, rfl⟩
set_option maxRecDepth 100000 in
set_option maxHeartbeats 4000000 in
theorem c_L_departure {G : AG} {M : Nat → Nat → Int32} {n : Nat} (hn : 72 ≤ n) {nc ns nz nb nr t : Nat} (hI : CI M nc ns nz nb nr t)  (x : Int32) : AMet tL_departure yL_departure [Cond.codeWith yL_departure cL_departure 4 (some .int) [(0, 9, 12, 21)]] [.ref 0, .int x, .ref 71] (wld G M) n (PLh (cd_departure M x) (M 18 x.toNatClampNeg) G M M n) := by
  refine amet_ofH (lo := [_, _, _, _]) (by decide) rfl (fun q => by cases q) (ble' rfl) (by intro v hv; simp at hv; rcases hv with rfl | rfl | rfl <;> rfl) rfl ?_
  refine aw_aload_n dL_departure_0 rfl ?_
  refine aw_iconst (v := 0) dL_departure_1 (by decide) ?_
  refine aw_aload_n dL_departure_2 rfl ?_
  refine aw_iload_n dL_departure_3 rfl ?_
  refine aw_tryV (hh := [(0, 9, 12, 21)]) kw_L_74 kv_L_74.2.1 kv_L_74.2.2 ko_X9_departure (c_X9_departure hn hI x) dL_departure_4 e_0 (l_0 hn) rfl rfl rfl rfl (ble' rfl) (by decide) (lc_r (by omega) (lc_i (lc_r (by omega) (lc_n lc_nil)))) (sc_i (sc_r (by omega) sc_nil)) (fun E h' n' hp => ?_) (fun v h' n' hp _ _ => ?_)
  · obtain ⟨rfl, ⟨-, q, -⟩ | ⟨hc0, hE, M', rfl, hs⟩⟩ := hp
    · cases q
    · have hle : (cd_departure M x) ≤ 1 := by unfold cd_departure; (repeat' split) <;> decide
      rcases (show (cd_departure M x) = 1 by omega) with q
      rw [q] at hE
      cases hE
      refine ⟨12, hx_L_departure_0, Or.inr ⟨3, dL_departure_12, by decide, ?_⟩⟩
      refine aw_iconst (v := 1) dL_departure_13 (by decide) ?_
      refine aw_iret rfl dL_departure_14 (ble' rfl) (ble' rfl) ?_
      exact ⟨rfl, by rw [q]; rfl, G.2.2, M', rfl, fun w => absurd w hc0, fun _ => hs⟩
  · obtain ⟨rfl, ⟨hc0, hv, M', rfl, hs⟩ | ⟨-, q, -⟩⟩ := hp
    · cases hv
      show AW _ _ _ _ _ (.int _ :: _) _ _ _ _
      refine aw_i2l dL_departure_7 ?_
      refine aw_out hn dL_departure_8 ?_
      refine aw_goto 15 dL_departure_9 (by decide) ?_
      refine aw_iconst (v := 0) dL_departure_15 (by decide) ?_
      refine aw_iret rfl dL_departure_16 (ble' rfl) (ble' rfl) ?_
      exact ⟨rfl, by rw [hc0]; rfl, _, M', rfl, fun _ => ⟨rfl, hs⟩, fun w => absurd hc0 w⟩
    · cases q

theorem kow_L_cost : KOW yL_cost cL_cost 4 (some .int) [(0, 9, 12, 21)] 3 := ⟨gw_at 1005 (by decide +kernel) rfl, gw_at 127 (by decide +kernel) rfl, by decide +kernel⟩
theorem hx_L_cost_0 : HX RL [(0, 9, 12, 21)] 4 "java/lang/IndexOutOfBoundsException" 12 := ⟨[], ⟨0, 9, 12, 21⟩, [], rfl, (fun _ h => by cases h), by decide, by decide, ⟨"java/lang/IndexOutOfBoundsException", gw_at 755 (by decide +kernel) rfl, gw_at 766 (by decide +kernel) rfl⟩, rfl⟩
set_option maxRecDepth 100000 in
set_option maxHeartbeats 4000000 in
theorem c_L_cost {G : AG} {M : Nat → Nat → Int32} {n : Nat} (hn : 72 ≤ n) {nc ns nz nb nr t : Nat} (hI : CI M nc ns nz nb nr t)  (x : Int32) : AMet tL_cost yL_cost [Cond.codeWith yL_cost cL_cost 4 (some .int) [(0, 9, 12, 21)]] [.ref 0, .int x, .ref 71] (wld G M) n (PLh (cd_cost M x) (M 19 x.toNatClampNeg) G M M n) := by
  refine amet_ofH (lo := [_, _, _, _]) (by decide) rfl (fun q => by cases q) (ble' rfl) (by intro v hv; simp at hv; rcases hv with rfl | rfl | rfl <;> rfl) rfl ?_
  refine aw_aload_n dL_cost_0 rfl ?_
  refine aw_iconst (v := 0) dL_cost_1 (by decide) ?_
  refine aw_aload_n dL_cost_2 rfl ?_
  refine aw_iload_n dL_cost_3 rfl ?_
  refine aw_tryV (hh := [(0, 9, 12, 21)]) kw_L_77 kv_L_77.2.1 kv_L_77.2.2 ko_X9_cost (c_X9_cost hn hI x) dL_cost_4 e_0 (l_0 hn) rfl rfl rfl rfl (ble' rfl) (by decide) (lc_r (by omega) (lc_i (lc_r (by omega) (lc_n lc_nil)))) (sc_i (sc_r (by omega) sc_nil)) (fun E h' n' hp => ?_) (fun v h' n' hp _ _ => ?_)
  · obtain ⟨rfl, ⟨-, q, -⟩ | ⟨hc0, hE, M', rfl, hs⟩⟩ := hp
    · cases q
    · have hle : (cd_cost M x) ≤ 1 := by unfold cd_cost; (repeat' split) <;> decide
      rcases (show (cd_cost M x) = 1 by omega) with q
      rw [q] at hE
      cases hE
      refine ⟨12, hx_L_cost_0, Or.inr ⟨3, dL_cost_12, by decide, ?_⟩⟩
      refine aw_iconst (v := 1) dL_cost_13 (by decide) ?_
      refine aw_iret rfl dL_cost_14 (ble' rfl) (ble' rfl) ?_
      exact ⟨rfl, by rw [q]; rfl, G.2.2, M', rfl, fun w => absurd w hc0, fun _ => hs⟩
  · obtain ⟨rfl, ⟨hc0, hv, M', rfl, hs⟩ | ⟨-, q, -⟩⟩ := hp
    · cases hv
      show AW _ _ _ _ _ (.int _ :: _) _ _ _ _
      refine aw_i2l dL_cost_7 ?_
      refine aw_out hn dL_cost_8 ?_
      refine aw_goto 15 dL_cost_9 (by decide) ?_
      refine aw_iconst (v := 0) dL_cost_15 (by decide) ?_
      refine aw_iret rfl dL_cost_16 (ble' rfl) (ble' rfl) ?_
      exact ⟨rfl, by rw [hc0]; rfl, _, M', rfl, fun _ => ⟨rfl, hs⟩, fun w => absurd hc0 w⟩
    · cases q

theorem kow_L_siteOf : KOW yL_siteOf cL_siteOf 4 (some .int) [(0, 9, 12, 21)] 3 := ⟨gw_at 1012 (by decide +kernel) rfl, gw_at 127 (by decide +kernel) rfl, by decide +kernel⟩
theorem hx_L_siteOf_0 : HX RL [(0, 9, 12, 21)] 4 "java/lang/IndexOutOfBoundsException" 12 := ⟨[], ⟨0, 9, 12, 21⟩, [], rfl, (fun _ h => by cases h), by decide, by decide, ⟨"java/lang/IndexOutOfBoundsException", gw_at 755 (by decide +kernel) rfl, gw_at 766 (by decide +kernel) rfl⟩, rfl⟩
set_option maxRecDepth 100000 in
set_option maxHeartbeats 4000000 in
theorem c_L_siteOf {G : AG} {M : Nat → Nat → Int32} {n : Nat} (hn : 72 ≤ n) {nc ns nz nb nr t : Nat} (hI : CI M nc ns nz nb nr t)  (x : Int32) : AMet tL_siteOf yL_siteOf [Cond.codeWith yL_siteOf cL_siteOf 4 (some .int) [(0, 9, 12, 21)]] [.ref 0, .int x, .ref 71] (wld G M) n (PLh (cd_siteOf M x) (M 21 x.toNatClampNeg) G M M n) := by
  refine amet_ofH (lo := [_, _, _, _]) (by decide) rfl (fun q => by cases q) (ble' rfl) (by intro v hv; simp at hv; rcases hv with rfl | rfl | rfl <;> rfl) rfl ?_
  refine aw_aload_n dL_siteOf_0 rfl ?_
  refine aw_iconst (v := 0) dL_siteOf_1 (by decide) ?_
  refine aw_aload_n dL_siteOf_2 rfl ?_
  refine aw_iload_n dL_siteOf_3 rfl ?_
  refine aw_tryV (hh := [(0, 9, 12, 21)]) kw_L_80 kv_L_80.2.1 kv_L_80.2.2 ko_X9_siteOf (c_X9_siteOf hn hI x) dL_siteOf_4 e_0 (l_0 hn) rfl rfl rfl rfl (ble' rfl) (by decide) (lc_r (by omega) (lc_i (lc_r (by omega) (lc_n lc_nil)))) (sc_i (sc_r (by omega) sc_nil)) (fun E h' n' hp => ?_) (fun v h' n' hp _ _ => ?_)
  · obtain ⟨rfl, ⟨-, q, -⟩ | ⟨hc0, hE, M', rfl, hs⟩⟩ := hp
    · cases q
    · have hle : (cd_siteOf M x) ≤ 1 := by unfold cd_siteOf; (repeat' split) <;> decide
      rcases (show (cd_siteOf M x) = 1 by omega) with q
      rw [q] at hE
      cases hE
      refine ⟨12, hx_L_siteOf_0, Or.inr ⟨3, dL_siteOf_12, by decide, ?_⟩⟩
      refine aw_iconst (v := 1) dL_siteOf_13 (by decide) ?_
      refine aw_iret rfl dL_siteOf_14 (ble' rfl) (ble' rfl) ?_
      exact ⟨rfl, by rw [q]; rfl, G.2.2, M', rfl, fun w => absurd w hc0, fun _ => hs⟩
  · obtain ⟨rfl, ⟨hc0, hv, M', rfl, hs⟩ | ⟨-, q, -⟩⟩ := hp
    · cases hv
      show AW _ _ _ _ _ (.int _ :: _) _ _ _ _
      refine aw_i2l dL_siteOf_7 ?_
      refine aw_out hn dL_siteOf_8 ?_
      refine aw_goto 15 dL_siteOf_9 (by decide) ?_
      refine aw_iconst (v := 0) dL_siteOf_15 (by decide) ?_
      refine aw_iret rfl dL_siteOf_16 (ble' rfl) (ble' rfl) ?_
      exact ⟨rfl, by rw [hc0]; rfl, _, M', rfl, fun _ => ⟨rfl, hs⟩, fun w => absurd hc0 w⟩
    · cases q

theorem kow_L_cancel : KOW yL_cancel cL_cancel 4 (some .int) [(0, 9, 12, 21), (0, 9, 15, 15)] 3 := ⟨gw_at 1019 (by decide +kernel) rfl, gw_at 127 (by decide +kernel) rfl, by decide +kernel⟩
theorem hx_L_cancel_0 : HX RL [(0, 9, 12, 21), (0, 9, 15, 15)] 4 "java/lang/IndexOutOfBoundsException" 12 := ⟨[], ⟨0, 9, 12, 21⟩, [⟨0, 9, 15, 15⟩], rfl, (fun _ h => by cases h), by decide, by decide, ⟨"java/lang/IndexOutOfBoundsException", gw_at 755 (by decide +kernel) rfl, gw_at 766 (by decide +kernel) rfl⟩, rfl⟩
theorem hx_L_cancel_1 : HX RL [(0, 9, 12, 21), (0, 9, 15, 15)] 4 "java/lang/IllegalStateException" 15 := ⟨[⟨0, 9, 12, 21⟩], ⟨0, 9, 15, 15⟩, [], rfl, (List.forall_mem_cons.mpr ⟨Or.inr ⟨by decide, "java/lang/IndexOutOfBoundsException", gw_at 755 (by decide +kernel) rfl, by decide +kernel⟩, (fun _ h => by cases h)⟩), by decide, by decide, ⟨"java/lang/IllegalStateException", gw_at 660 (by decide +kernel) rfl, gw_at 737 (by decide +kernel) rfl⟩, rfl⟩
set_option maxRecDepth 100000 in
set_option maxHeartbeats 4000000 in
theorem c_L_cancel {G : AG} {M : Nat → Nat → Int32} {n : Nat} (hn : 72 ≤ n) {nc ns nz nb nr t : Nat} (hI : CI M nc ns nz nb nr t)  (x : Int32) : AMet tL_cancel yL_cancel [Cond.codeWith yL_cancel cL_cancel 4 (some .int) [(0, 9, 12, 21), (0, 9, 15, 15)]] [.ref 0, .int x, .ref 71] (wld G M) n (PLh (cd_cancel M x) (rcF (M 17 x.toNatClampNeg - M 1 5) (M 19 x.toNatClampNeg)) G M (cnlM M x.toNatClampNeg) n) := by
  refine amet_ofH (lo := [_, _, _, _]) (by decide) rfl (fun q => by cases q) (ble' rfl) (by intro v hv; simp at hv; rcases hv with rfl | rfl | rfl <;> rfl) rfl ?_
  refine aw_aload_n dL_cancel_0 rfl ?_
  refine aw_iconst (v := 0) dL_cancel_1 (by decide) ?_
  refine aw_aload_n dL_cancel_2 rfl ?_
  refine aw_iload_n dL_cancel_3 rfl ?_
  refine aw_tryV (hh := [(0, 9, 12, 21), (0, 9, 15, 15)]) kw_L_83 kv_L_83.2.1 kv_L_83.2.2 ko_X9_cancel (c_X9_cancel hn hI x) dL_cancel_4 e_0 (l_0 hn) rfl rfl rfl rfl (ble' rfl) (by decide) (lc_r (by omega) (lc_i (lc_r (by omega) (lc_n lc_nil)))) (sc_i (sc_r (by omega) sc_nil)) (fun E h' n' hp => ?_) (fun v h' n' hp _ _ => ?_)
  · obtain ⟨rfl, ⟨-, q, -⟩ | ⟨hc0, hE, M', rfl, hs⟩⟩ := hp
    · cases q
    · have hle : (cd_cancel M x) ≤ 2 := by unfold cd_cancel; (repeat' split) <;> decide
      rcases (show (cd_cancel M x) = 1 ∨ (cd_cancel M x) = 2 by omega) with q | q
      · rw [q] at hE
        cases hE
        refine ⟨12, hx_L_cancel_0, Or.inr ⟨3, dL_cancel_12, by decide, ?_⟩⟩
        refine aw_iconst (v := 1) dL_cancel_13 (by decide) ?_
        refine aw_iret rfl dL_cancel_14 (ble' rfl) (ble' rfl) ?_
        exact ⟨rfl, by rw [q]; rfl, G.2.2, M', rfl, fun w => absurd w hc0, fun _ => hs⟩
      · rw [q] at hE
        cases hE
        refine ⟨15, hx_L_cancel_1, Or.inr ⟨3, dL_cancel_15, by decide, ?_⟩⟩
        refine aw_iconst (v := 2) dL_cancel_16 (by decide) ?_
        refine aw_iret rfl dL_cancel_17 (ble' rfl) (ble' rfl) ?_
        exact ⟨rfl, by rw [q]; rfl, G.2.2, M', rfl, fun w => absurd w hc0, fun _ => hs⟩
  · obtain ⟨rfl, ⟨hc0, hv, M', rfl, hs⟩ | ⟨-, q, -⟩⟩ := hp
    · cases hv
      show AW _ _ _ _ _ (.int _ :: _) _ _ _ _
      refine aw_i2l dL_cancel_7 ?_
      refine aw_out hn dL_cancel_8 ?_
      refine aw_goto 18 dL_cancel_9 (by decide) ?_
      refine aw_iconst (v := 0) dL_cancel_18 (by decide) ?_
      refine aw_iret rfl dL_cancel_19 (ble' rfl) (ble' rfl) ?_
      exact ⟨rfl, by rw [hc0]; rfl, _, M', rfl, fun _ => ⟨rfl, hs⟩, fun w => absurd hc0 w⟩
    · cases q

theorem kow_L_vacantSite : KOW yL_vacantSite cL_vacantSite 4 (some .int) [(0, 9, 12, 21)] 3 := ⟨gw_at 1034 (by decide +kernel) rfl, gw_at 127 (by decide +kernel) rfl, by decide +kernel⟩
theorem hx_L_vacantSite_0 : HX RL [(0, 9, 12, 21)] 4 "java/lang/IndexOutOfBoundsException" 12 := ⟨[], ⟨0, 9, 12, 21⟩, [], rfl, (fun _ h => by cases h), by decide, by decide, ⟨"java/lang/IndexOutOfBoundsException", gw_at 755 (by decide +kernel) rfl, gw_at 766 (by decide +kernel) rfl⟩, rfl⟩
set_option maxRecDepth 100000 in
set_option maxHeartbeats 4000000 in
theorem c_L_vacantSite {G : AG} {M : Nat → Nat → Int32} {n : Nat} (hn : 72 ≤ n) {nc ns nz nb nr t : Nat} (hI : CI M nc ns nz nb nr t)  (c : Int32) : AMet tL_vacantSite yL_vacantSite [Cond.codeWith yL_vacantSite cL_vacantSite 4 (some .int) [(0, 9, 12, 21)]] [.ref 0, .int c, .ref 71] (wld G M) n (PLh (cd_vacantSite M c) (fstN (fun k => decide (M 7 k = c ∧ (¬ M 1 5 < M 8 k ∧ anyB (sbB (M 20) (M 21) (nI k)) nb = false))) ns) G M M n) := by
  refine amet_ofH (lo := [_, _, _, _]) (by decide) rfl (fun q => by cases q) (ble' rfl) (by intro v hv; simp at hv; rcases hv with rfl | rfl | rfl <;> rfl) rfl ?_
  refine aw_aload_n dL_vacantSite_0 rfl ?_
  refine aw_iconst (v := 0) dL_vacantSite_1 (by decide) ?_
  refine aw_aload_n dL_vacantSite_2 rfl ?_
  refine aw_iload_n dL_vacantSite_3 rfl ?_
  refine aw_tryV (hh := [(0, 9, 12, 21)]) kw_L_86 kv_L_86.2.1 kv_L_86.2.2 ko_X9_vacantSite (c_X9_vacantSite hn hI c) dL_vacantSite_4 e_0 (l_0 hn) rfl rfl rfl rfl (ble' rfl) (by decide) (lc_r (by omega) (lc_i (lc_r (by omega) (lc_n lc_nil)))) (sc_i (sc_r (by omega) sc_nil)) (fun E h' n' hp => ?_) (fun v h' n' hp _ _ => ?_)
  · obtain ⟨rfl, ⟨-, q, -⟩ | ⟨hc0, hE, M', rfl, hs⟩⟩ := hp
    · cases q
    · have hle : (cd_vacantSite M c) ≤ 1 := by unfold cd_vacantSite; (repeat' split) <;> decide
      rcases (show (cd_vacantSite M c) = 1 by omega) with q
      rw [q] at hE
      cases hE
      refine ⟨12, hx_L_vacantSite_0, Or.inr ⟨3, dL_vacantSite_12, by decide, ?_⟩⟩
      refine aw_iconst (v := 1) dL_vacantSite_13 (by decide) ?_
      refine aw_iret rfl dL_vacantSite_14 (ble' rfl) (ble' rfl) ?_
      exact ⟨rfl, by rw [q]; rfl, G.2.2, M', rfl, fun w => absurd w hc0, fun _ => hs⟩
  · obtain ⟨rfl, ⟨hc0, hv, M', rfl, hs⟩ | ⟨-, q, -⟩⟩ := hp
    · cases hv
      show AW _ _ _ _ _ (.int _ :: _) _ _ _ _
      refine aw_i2l dL_vacantSite_7 ?_
      refine aw_out hn dL_vacantSite_8 ?_
      refine aw_goto 15 dL_vacantSite_9 (by decide) ?_
      refine aw_iconst (v := 0) dL_vacantSite_15 (by decide) ?_
      refine aw_iret rfl dL_vacantSite_16 (ble' rfl) (ble' rfl) ?_
      exact ⟨rfl, by rw [hc0]; rfl, _, M', rfl, fun _ => ⟨rfl, hs⟩, fun w => absurd hc0 w⟩
    · cases q

theorem kow_L_checkIn : KOW yL_checkIn cL_checkIn 5 (some .int) [(0, 10, 13, 21), (0, 10, 17, 13), (0, 10, 21, 15)] 4 := ⟨gw_at 1057 (by decide +kernel) rfl, gw_at 127 (by decide +kernel) rfl, by decide +kernel⟩
theorem hx_L_checkIn_0 : HX RL [(0, 10, 13, 21), (0, 10, 17, 13), (0, 10, 21, 15)] 5 "java/lang/IndexOutOfBoundsException" 13 := ⟨[], ⟨0, 10, 13, 21⟩, [⟨0, 10, 17, 13⟩, ⟨0, 10, 21, 15⟩], rfl, (fun _ h => by cases h), by decide, by decide, ⟨"java/lang/IndexOutOfBoundsException", gw_at 755 (by decide +kernel) rfl, gw_at 766 (by decide +kernel) rfl⟩, rfl⟩
theorem hx_L_checkIn_1 : HX RL [(0, 10, 13, 21), (0, 10, 17, 13), (0, 10, 21, 15)] 5 "java/lang/IllegalArgumentException" 17 := ⟨[⟨0, 10, 13, 21⟩], ⟨0, 10, 17, 13⟩, [⟨0, 10, 21, 15⟩], rfl, (List.forall_mem_cons.mpr ⟨Or.inr ⟨by decide, "java/lang/IndexOutOfBoundsException", gw_at 755 (by decide +kernel) rfl, by decide +kernel⟩, (fun _ h => by cases h)⟩), by decide, by decide, ⟨"java/lang/IllegalArgumentException", gw_at 659 (by decide +kernel) rfl, gw_at 670 (by decide +kernel) rfl⟩, rfl⟩
theorem hx_L_checkIn_2 : HX RL [(0, 10, 13, 21), (0, 10, 17, 13), (0, 10, 21, 15)] 5 "java/lang/IllegalStateException" 21 := ⟨[⟨0, 10, 13, 21⟩, ⟨0, 10, 17, 13⟩], ⟨0, 10, 21, 15⟩, [], rfl, (List.forall_mem_cons.mpr ⟨Or.inr ⟨by decide, "java/lang/IndexOutOfBoundsException", gw_at 755 (by decide +kernel) rfl, by decide +kernel⟩, (List.forall_mem_cons.mpr ⟨Or.inr ⟨by decide, "java/lang/IllegalArgumentException", gw_at 659 (by decide +kernel) rfl, by decide +kernel⟩, (fun _ h => by cases h)⟩)⟩), by decide, by decide, ⟨"java/lang/IllegalStateException", gw_at 660 (by decide +kernel) rfl, gw_at 737 (by decide +kernel) rfl⟩, rfl⟩
set_option maxRecDepth 100000 in
set_option maxHeartbeats 4000000 in
theorem c_L_checkIn {G : AG} {M : Nat → Nat → Int32} {n : Nat} (hn : 72 ≤ n) {nc ns nz nb nr t : Nat} (hI : CI M nc ns nz nb nr t)  (x s : Int32) : AMet tL_checkIn yL_checkIn [Cond.codeWith yL_checkIn cL_checkIn 5 (some .int) [(0, 10, 13, 21), (0, 10, 17, 13), (0, 10, 21, 15)]] [.ref 0, .int x, .int s, .ref 71] (wld G M) n (PLh (cd_checkIn M x s) (givM M (M 16 x.toNatClampNeg) s) G M (ciM M x.toNatClampNeg (givM M (M 16 x.toNatClampNeg) s)) n) := by
  refine amet_ofH (lo := [_, _, _, _, _]) (by decide) rfl (fun q => by cases q) (ble' rfl) (by intro v hv; simp at hv; rcases hv with rfl | rfl | rfl | rfl <;> rfl) rfl ?_
  refine aw_aload_n dL_checkIn_0 rfl ?_
  refine aw_iconst (v := 0) dL_checkIn_1 (by decide) ?_
  refine aw_aload_n dL_checkIn_2 rfl ?_
  refine aw_iload_n dL_checkIn_3 rfl ?_
  refine aw_iload_n dL_checkIn_4 rfl ?_
  refine aw_tryV (hh := [(0, 10, 13, 21), (0, 10, 17, 13), (0, 10, 21, 15)]) kw_L_89 kv_L_89.2.1 kv_L_89.2.2 ko_X9_checkIn (c_X9_checkIn hn hI x s) dL_checkIn_5 e_0 (l_0 hn) rfl rfl rfl rfl (ble' rfl) (by decide) (lc_r (by omega) (lc_i (lc_i (lc_r (by omega) (lc_n lc_nil))))) (sc_i (sc_r (by omega) sc_nil)) (fun E h' n' hp => ?_) (fun v h' n' hp _ _ => ?_)
  · obtain ⟨rfl, ⟨-, q, -⟩ | ⟨hc0, hE, M', rfl, hs⟩⟩ := hp
    · cases q
    · have hle : (cd_checkIn M x s) ≤ 3 := by unfold cd_checkIn; (repeat' split) <;> decide
      rcases (show (cd_checkIn M x s) = 1 ∨ (cd_checkIn M x s) = 2 ∨ (cd_checkIn M x s) = 3 by omega) with q | q | q
      · rw [q] at hE
        cases hE
        refine ⟨13, hx_L_checkIn_0, Or.inl ⟨4, dL_checkIn_13, by decide, ?_⟩⟩
        refine aw_iconst (v := 1) dL_checkIn_15 (by decide) ?_
        refine aw_iret rfl dL_checkIn_16 (ble' rfl) (ble' rfl) ?_
        exact ⟨rfl, by rw [q]; rfl, G.2.2, M', rfl, fun w => absurd w hc0, fun _ => hs⟩
      · rw [q] at hE
        cases hE
        refine ⟨17, hx_L_checkIn_1, Or.inl ⟨4, dL_checkIn_17, by decide, ?_⟩⟩
        refine aw_iconst (v := 2) dL_checkIn_19 (by decide) ?_
        refine aw_iret rfl dL_checkIn_20 (ble' rfl) (ble' rfl) ?_
        exact ⟨rfl, by rw [q]; rfl, G.2.2, M', rfl, fun w => absurd w hc0, fun _ => hs⟩
      · rw [q] at hE
        cases hE
        refine ⟨21, hx_L_checkIn_2, Or.inl ⟨4, dL_checkIn_21, by decide, ?_⟩⟩
        refine aw_iconst (v := 3) dL_checkIn_23 (by decide) ?_
        refine aw_iret rfl dL_checkIn_24 (ble' rfl) (ble' rfl) ?_
        exact ⟨rfl, by rw [q]; rfl, G.2.2, M', rfl, fun w => absurd w hc0, fun _ => hs⟩
  · obtain ⟨rfl, ⟨hc0, hv, M', rfl, hs⟩ | ⟨-, q, -⟩⟩ := hp
    · cases hv
      show AW _ _ _ _ _ (.int _ :: _) _ _ _ _
      refine aw_i2l dL_checkIn_8 ?_
      refine aw_out hn dL_checkIn_9 ?_
      refine aw_goto 25 dL_checkIn_10 (by decide) ?_
      refine aw_iconst (v := 0) dL_checkIn_25 (by decide) ?_
      refine aw_iret rfl dL_checkIn_26 (ble' rfl) (ble' rfl) ?_
      exact ⟨rfl, by rw [hc0]; rfl, _, M', rfl, fun _ => ⟨rfl, hs⟩, fun w => absurd hc0 w⟩
    · cases q

theorem kow_L_move : KOW yL_move cL_move 5 (some .int) [(0, 10, 13, 21), (0, 10, 17, 13), (0, 10, 21, 15)] 4 := ⟨gw_at 1070 (by decide +kernel) rfl, gw_at 127 (by decide +kernel) rfl, by decide +kernel⟩
theorem hx_L_move_0 : HX RL [(0, 10, 13, 21), (0, 10, 17, 13), (0, 10, 21, 15)] 5 "java/lang/IndexOutOfBoundsException" 13 := ⟨[], ⟨0, 10, 13, 21⟩, [⟨0, 10, 17, 13⟩, ⟨0, 10, 21, 15⟩], rfl, (fun _ h => by cases h), by decide, by decide, ⟨"java/lang/IndexOutOfBoundsException", gw_at 755 (by decide +kernel) rfl, gw_at 766 (by decide +kernel) rfl⟩, rfl⟩
theorem hx_L_move_1 : HX RL [(0, 10, 13, 21), (0, 10, 17, 13), (0, 10, 21, 15)] 5 "java/lang/IllegalArgumentException" 17 := ⟨[⟨0, 10, 13, 21⟩], ⟨0, 10, 17, 13⟩, [⟨0, 10, 21, 15⟩], rfl, (List.forall_mem_cons.mpr ⟨Or.inr ⟨by decide, "java/lang/IndexOutOfBoundsException", gw_at 755 (by decide +kernel) rfl, by decide +kernel⟩, (fun _ h => by cases h)⟩), by decide, by decide, ⟨"java/lang/IllegalArgumentException", gw_at 659 (by decide +kernel) rfl, gw_at 670 (by decide +kernel) rfl⟩, rfl⟩
theorem hx_L_move_2 : HX RL [(0, 10, 13, 21), (0, 10, 17, 13), (0, 10, 21, 15)] 5 "java/lang/IllegalStateException" 21 := ⟨[⟨0, 10, 13, 21⟩, ⟨0, 10, 17, 13⟩], ⟨0, 10, 21, 15⟩, [], rfl, (List.forall_mem_cons.mpr ⟨Or.inr ⟨by decide, "java/lang/IndexOutOfBoundsException", gw_at 755 (by decide +kernel) rfl, by decide +kernel⟩, (List.forall_mem_cons.mpr ⟨Or.inr ⟨by decide, "java/lang/IllegalArgumentException", gw_at 659 (by decide +kernel) rfl, by decide +kernel⟩, (fun _ h => by cases h)⟩)⟩), by decide, by decide, ⟨"java/lang/IllegalStateException", gw_at 660 (by decide +kernel) rfl, gw_at 737 (by decide +kernel) rfl⟩, rfl⟩
set_option maxRecDepth 100000 in
set_option maxHeartbeats 4000000 in
theorem c_L_move {G : AG} {M : Nat → Nat → Int32} {n : Nat} (hn : 72 ≤ n) {nc ns nz nb nr t : Nat} (hI : CI M nc ns nz nb nr t)  (x s : Int32) : AMet tL_move yL_move [Cond.codeWith yL_move cL_move 5 (some .int) [(0, 10, 13, 21), (0, 10, 17, 13), (0, 10, 21, 15)]] [.ref 0, .int x, .int s, .ref 71] (wld G M) n (PLh (cd_move M x s) (M 21 x.toNatClampNeg) G M (updM M 21 (upd (M 21) x.toNatClampNeg s)) n) := by
  refine amet_ofH (lo := [_, _, _, _, _]) (by decide) rfl (fun q => by cases q) (ble' rfl) (by intro v hv; simp at hv; rcases hv with rfl | rfl | rfl | rfl <;> rfl) rfl ?_
  refine aw_aload_n dL_move_0 rfl ?_
  refine aw_iconst (v := 0) dL_move_1 (by decide) ?_
  refine aw_aload_n dL_move_2 rfl ?_
  refine aw_iload_n dL_move_3 rfl ?_
  refine aw_iload_n dL_move_4 rfl ?_
  refine aw_tryV (hh := [(0, 10, 13, 21), (0, 10, 17, 13), (0, 10, 21, 15)]) kw_L_92 kv_L_92.2.1 kv_L_92.2.2 ko_X9_move (c_X9_move hn hI x s) dL_move_5 e_0 (l_0 hn) rfl rfl rfl rfl (ble' rfl) (by decide) (lc_r (by omega) (lc_i (lc_i (lc_r (by omega) (lc_n lc_nil))))) (sc_i (sc_r (by omega) sc_nil)) (fun E h' n' hp => ?_) (fun v h' n' hp _ _ => ?_)
  · obtain ⟨rfl, ⟨-, q, -⟩ | ⟨hc0, hE, M', rfl, hs⟩⟩ := hp
    · cases q
    · have hle : (cd_move M x s) ≤ 3 := by unfold cd_move; (repeat' split) <;> decide
      rcases (show (cd_move M x s) = 1 ∨ (cd_move M x s) = 2 ∨ (cd_move M x s) = 3 by omega) with q | q | q
      · rw [q] at hE
        cases hE
        refine ⟨13, hx_L_move_0, Or.inl ⟨4, dL_move_13, by decide, ?_⟩⟩
        refine aw_iconst (v := 1) dL_move_15 (by decide) ?_
        refine aw_iret rfl dL_move_16 (ble' rfl) (ble' rfl) ?_
        exact ⟨rfl, by rw [q]; rfl, G.2.2, M', rfl, fun w => absurd w hc0, fun _ => hs⟩
      · rw [q] at hE
        cases hE
        refine ⟨17, hx_L_move_1, Or.inl ⟨4, dL_move_17, by decide, ?_⟩⟩
        refine aw_iconst (v := 2) dL_move_19 (by decide) ?_
        refine aw_iret rfl dL_move_20 (ble' rfl) (ble' rfl) ?_
        exact ⟨rfl, by rw [q]; rfl, G.2.2, M', rfl, fun w => absurd w hc0, fun _ => hs⟩
      · rw [q] at hE
        cases hE
        refine ⟨21, hx_L_move_2, Or.inl ⟨4, dL_move_21, by decide, ?_⟩⟩
        refine aw_iconst (v := 3) dL_move_23 (by decide) ?_
        refine aw_iret rfl dL_move_24 (ble' rfl) (ble' rfl) ?_
        exact ⟨rfl, by rw [q]; rfl, G.2.2, M', rfl, fun w => absurd w hc0, fun _ => hs⟩
  · obtain ⟨rfl, ⟨hc0, hv, M', rfl, hs⟩ | ⟨-, q, -⟩⟩ := hp
    · cases hv
      show AW _ _ _ _ _ (.int _ :: _) _ _ _ _
      refine aw_i2l dL_move_8 ?_
      refine aw_out hn dL_move_9 ?_
      refine aw_goto 25 dL_move_10 (by decide) ?_
      refine aw_iconst (v := 0) dL_move_25 (by decide) ?_
      refine aw_iret rfl dL_move_26 (ble' rfl) (ble' rfl) ?_
      exact ⟨rfl, by rw [hc0]; rfl, _, M', rfl, fun _ => ⟨rfl, hs⟩, fun w => absurd hc0 w⟩
    · cases q

theorem kow_L_departEarly : KOW yL_departEarly cL_departEarly 4 (some .int) [(0, 9, 12, 21), (0, 9, 15, 15)] 3 := ⟨gw_at 1077 (by decide +kernel) rfl, gw_at 127 (by decide +kernel) rfl, by decide +kernel⟩
theorem hx_L_departEarly_0 : HX RL [(0, 9, 12, 21), (0, 9, 15, 15)] 4 "java/lang/IndexOutOfBoundsException" 12 := ⟨[], ⟨0, 9, 12, 21⟩, [⟨0, 9, 15, 15⟩], rfl, (fun _ h => by cases h), by decide, by decide, ⟨"java/lang/IndexOutOfBoundsException", gw_at 755 (by decide +kernel) rfl, gw_at 766 (by decide +kernel) rfl⟩, rfl⟩
theorem hx_L_departEarly_1 : HX RL [(0, 9, 12, 21), (0, 9, 15, 15)] 4 "java/lang/IllegalStateException" 15 := ⟨[⟨0, 9, 12, 21⟩], ⟨0, 9, 15, 15⟩, [], rfl, (List.forall_mem_cons.mpr ⟨Or.inr ⟨by decide, "java/lang/IndexOutOfBoundsException", gw_at 755 (by decide +kernel) rfl, by decide +kernel⟩, (fun _ h => by cases h)⟩), by decide, by decide, ⟨"java/lang/IllegalStateException", gw_at 660 (by decide +kernel) rfl, gw_at 737 (by decide +kernel) rfl⟩, rfl⟩
set_option maxRecDepth 100000 in
set_option maxHeartbeats 4000000 in
theorem c_L_departEarly {G : AG} {M : Nat → Nat → Int32} {n : Nat} (hn : 72 ≤ n) {nc ns nz nb nr t : Nat} (hI : CI M nc ns nz nb nr t) (hBI : ∀ k, k < nb → ∃ d : Nat, d ≤ 999 ∧ M 18 k = nI d) (x : Int32) : AMet tL_departEarly yL_departEarly [Cond.codeWith yL_departEarly cL_departEarly 4 (some .int) [(0, 9, 12, 21), (0, 9, 15, 15)]] [.ref 0, .int x, .ref 71] (wld G M) n (PLh (cd_departEarly M x) (rdM M x.toNatClampNeg) G M (dpM M x.toNatClampNeg) n) := by
  refine amet_ofH (lo := [_, _, _, _]) (by decide) rfl (fun q => by cases q) (ble' rfl) (by intro v hv; simp at hv; rcases hv with rfl | rfl | rfl <;> rfl) rfl ?_
  refine aw_aload_n dL_departEarly_0 rfl ?_
  refine aw_iconst (v := 0) dL_departEarly_1 (by decide) ?_
  refine aw_aload_n dL_departEarly_2 rfl ?_
  refine aw_iload_n dL_departEarly_3 rfl ?_
  refine aw_tryV (hh := [(0, 9, 12, 21), (0, 9, 15, 15)]) kw_L_95 kv_L_95.2.1 kv_L_95.2.2 ko_X9_departEarly (c_X9_departEarly hn hI hBI x) dL_departEarly_4 e_0 (l_0 hn) rfl rfl rfl rfl (ble' rfl) (by decide) (lc_r (by omega) (lc_i (lc_r (by omega) (lc_n lc_nil)))) (sc_i (sc_r (by omega) sc_nil)) (fun E h' n' hp => ?_) (fun v h' n' hp _ _ => ?_)
  · obtain ⟨rfl, ⟨-, q, -⟩ | ⟨hc0, hE, M', rfl, hs⟩⟩ := hp
    · cases q
    · have hle : (cd_departEarly M x) ≤ 2 := by unfold cd_departEarly; (repeat' split) <;> decide
      rcases (show (cd_departEarly M x) = 1 ∨ (cd_departEarly M x) = 2 by omega) with q | q
      · rw [q] at hE
        cases hE
        refine ⟨12, hx_L_departEarly_0, Or.inr ⟨3, dL_departEarly_12, by decide, ?_⟩⟩
        refine aw_iconst (v := 1) dL_departEarly_13 (by decide) ?_
        refine aw_iret rfl dL_departEarly_14 (ble' rfl) (ble' rfl) ?_
        exact ⟨rfl, by rw [q]; rfl, G.2.2, M', rfl, fun w => absurd w hc0, fun _ => hs⟩
      · rw [q] at hE
        cases hE
        refine ⟨15, hx_L_departEarly_1, Or.inr ⟨3, dL_departEarly_15, by decide, ?_⟩⟩
        refine aw_iconst (v := 2) dL_departEarly_16 (by decide) ?_
        refine aw_iret rfl dL_departEarly_17 (ble' rfl) (ble' rfl) ?_
        exact ⟨rfl, by rw [q]; rfl, G.2.2, M', rfl, fun w => absurd w hc0, fun _ => hs⟩
  · obtain ⟨rfl, ⟨hc0, hv, M', rfl, hs⟩ | ⟨-, q, -⟩⟩ := hp
    · cases hv
      show AW _ _ _ _ _ (.int _ :: _) _ _ _ _
      refine aw_i2l dL_departEarly_7 ?_
      refine aw_out hn dL_departEarly_8 ?_
      refine aw_goto 18 dL_departEarly_9 (by decide) ?_
      refine aw_iconst (v := 0) dL_departEarly_18 (by decide) ?_
      refine aw_iret rfl dL_departEarly_19 (ble' rfl) (ble' rfl) ?_
      exact ⟨rfl, by rw [hc0]; rfl, _, M', rfl, fun _ => ⟨rfl, hs⟩, fun w => absurd hc0 w⟩
    · cases q

theorem kow_L_extend : KOW yL_extend cL_extend 5 (some .int) [(0, 10, 13, 21), (0, 10, 17, 13), (0, 10, 21, 15)] 4 := ⟨gw_at 1088 (by decide +kernel) rfl, gw_at 127 (by decide +kernel) rfl, by decide +kernel⟩
theorem hx_L_extend_0 : HX RL [(0, 10, 13, 21), (0, 10, 17, 13), (0, 10, 21, 15)] 5 "java/lang/IndexOutOfBoundsException" 13 := ⟨[], ⟨0, 10, 13, 21⟩, [⟨0, 10, 17, 13⟩, ⟨0, 10, 21, 15⟩], rfl, (fun _ h => by cases h), by decide, by decide, ⟨"java/lang/IndexOutOfBoundsException", gw_at 755 (by decide +kernel) rfl, gw_at 766 (by decide +kernel) rfl⟩, rfl⟩
theorem hx_L_extend_1 : HX RL [(0, 10, 13, 21), (0, 10, 17, 13), (0, 10, 21, 15)] 5 "java/lang/IllegalArgumentException" 17 := ⟨[⟨0, 10, 13, 21⟩], ⟨0, 10, 17, 13⟩, [⟨0, 10, 21, 15⟩], rfl, (List.forall_mem_cons.mpr ⟨Or.inr ⟨by decide, "java/lang/IndexOutOfBoundsException", gw_at 755 (by decide +kernel) rfl, by decide +kernel⟩, (fun _ h => by cases h)⟩), by decide, by decide, ⟨"java/lang/IllegalArgumentException", gw_at 659 (by decide +kernel) rfl, gw_at 670 (by decide +kernel) rfl⟩, rfl⟩
theorem hx_L_extend_2 : HX RL [(0, 10, 13, 21), (0, 10, 17, 13), (0, 10, 21, 15)] 5 "java/lang/IllegalStateException" 21 := ⟨[⟨0, 10, 13, 21⟩, ⟨0, 10, 17, 13⟩], ⟨0, 10, 21, 15⟩, [], rfl, (List.forall_mem_cons.mpr ⟨Or.inr ⟨by decide, "java/lang/IndexOutOfBoundsException", gw_at 755 (by decide +kernel) rfl, by decide +kernel⟩, (List.forall_mem_cons.mpr ⟨Or.inr ⟨by decide, "java/lang/IllegalArgumentException", gw_at 659 (by decide +kernel) rfl, by decide +kernel⟩, (fun _ h => by cases h)⟩)⟩), by decide, by decide, ⟨"java/lang/IllegalStateException", gw_at 660 (by decide +kernel) rfl, gw_at 737 (by decide +kernel) rfl⟩, rfl⟩
set_option maxRecDepth 100000 in
set_option maxHeartbeats 4000000 in
theorem c_L_extend {G : AG} {M : Nat → Nat → Int32} {n : Nat} (hn : 72 ≤ n) {nc ns nz nb nr t : Nat} (hI : CI M nc ns nz nb nr t) (hBC : ∀ k, k < nb → ∃ kc, kc < nc ∧ M 16 k = nI kc) (x m : Int32) : AMet tL_extend yL_extend [Cond.codeWith yL_extend cL_extend 5 (some .int) [(0, 10, 13, 21), (0, 10, 17, 13), (0, 10, 21, 15)]] [.ref 0, .int x, .int m, .ref 71] (wld G M) n (PLh (cd_extend M x m) (exP M x.toNatClampNeg m) G M (exM M x.toNatClampNeg m) n) := by
  refine amet_ofH (lo := [_, _, _, _, _]) (by decide) rfl (fun q => by cases q) (ble' rfl) (by intro v hv; simp at hv; rcases hv with rfl | rfl | rfl | rfl <;> rfl) rfl ?_
  refine aw_aload_n dL_extend_0 rfl ?_
  refine aw_iconst (v := 0) dL_extend_1 (by decide) ?_
  refine aw_aload_n dL_extend_2 rfl ?_
  refine aw_iload_n dL_extend_3 rfl ?_
  refine aw_iload_n dL_extend_4 rfl ?_
  refine aw_tryV (hh := [(0, 10, 13, 21), (0, 10, 17, 13), (0, 10, 21, 15)]) kw_L_98 kv_L_98.2.1 kv_L_98.2.2 ko_X9_extend (c_X9_extend hn hI hBC x m) dL_extend_5 e_0 (l_0 hn) rfl rfl rfl rfl (ble' rfl) (by decide) (lc_r (by omega) (lc_i (lc_i (lc_r (by omega) (lc_n lc_nil))))) (sc_i (sc_r (by omega) sc_nil)) (fun E h' n' hp => ?_) (fun v h' n' hp _ _ => ?_)
  · obtain ⟨rfl, ⟨-, q, -⟩ | ⟨hc0, hE, M', rfl, hs⟩⟩ := hp
    · cases q
    · have hle : (cd_extend M x m) ≤ 3 := by unfold cd_extend; (repeat' split) <;> decide
      rcases (show (cd_extend M x m) = 1 ∨ (cd_extend M x m) = 2 ∨ (cd_extend M x m) = 3 by omega) with q | q | q
      · rw [q] at hE
        cases hE
        refine ⟨13, hx_L_extend_0, Or.inl ⟨4, dL_extend_13, by decide, ?_⟩⟩
        refine aw_iconst (v := 1) dL_extend_15 (by decide) ?_
        refine aw_iret rfl dL_extend_16 (ble' rfl) (ble' rfl) ?_
        exact ⟨rfl, by rw [q]; rfl, G.2.2, M', rfl, fun w => absurd w hc0, fun _ => hs⟩
      · rw [q] at hE
        cases hE
        refine ⟨17, hx_L_extend_1, Or.inl ⟨4, dL_extend_17, by decide, ?_⟩⟩
        refine aw_iconst (v := 2) dL_extend_19 (by decide) ?_
        refine aw_iret rfl dL_extend_20 (ble' rfl) (ble' rfl) ?_
        exact ⟨rfl, by rw [q]; rfl, G.2.2, M', rfl, fun w => absurd w hc0, fun _ => hs⟩
      · rw [q] at hE
        cases hE
        refine ⟨21, hx_L_extend_2, Or.inl ⟨4, dL_extend_21, by decide, ?_⟩⟩
        refine aw_iconst (v := 3) dL_extend_23 (by decide) ?_
        refine aw_iret rfl dL_extend_24 (ble' rfl) (ble' rfl) ?_
        exact ⟨rfl, by rw [q]; rfl, G.2.2, M', rfl, fun w => absurd w hc0, fun _ => hs⟩
  · obtain ⟨rfl, ⟨hc0, hv, M', rfl, hs⟩ | ⟨-, q, -⟩⟩ := hp
    · cases hv
      show AW _ _ _ _ _ (.int _ :: _) _ _ _ _
      refine aw_i2l dL_extend_8 ?_
      refine aw_out hn dL_extend_9 ?_
      refine aw_goto 25 dL_extend_10 (by decide) ?_
      refine aw_iconst (v := 0) dL_extend_25 (by decide) ?_
      refine aw_iret rfl dL_extend_26 (ble' rfl) (ble' rfl) ?_
      exact ⟨rfl, by rw [hc0]; rfl, _, M', rfl, fun _ => ⟨rfl, hs⟩, fun w => absurd hc0 w⟩
    · cases q

theorem kow_L_endDays : KOW yL_endDays cL_endDays 4 (some .int) [(0, 9, 12, 13), (0, 9, 15, 15)] 3 := ⟨gw_at 1097 (by decide +kernel) rfl, gw_at 127 (by decide +kernel) rfl, by decide +kernel⟩
theorem hx_L_endDays_0 : HX RL [(0, 9, 12, 13), (0, 9, 15, 15)] 4 "java/lang/IllegalArgumentException" 12 := ⟨[], ⟨0, 9, 12, 13⟩, [⟨0, 9, 15, 15⟩], rfl, (fun _ h => by cases h), by decide, by decide, ⟨"java/lang/IllegalArgumentException", gw_at 659 (by decide +kernel) rfl, gw_at 670 (by decide +kernel) rfl⟩, rfl⟩
theorem hx_L_endDays_1 : HX RL [(0, 9, 12, 13), (0, 9, 15, 15)] 4 "java/lang/IllegalStateException" 15 := ⟨[⟨0, 9, 12, 13⟩], ⟨0, 9, 15, 15⟩, [], rfl, (List.forall_mem_cons.mpr ⟨Or.inr ⟨by decide, "java/lang/IllegalArgumentException", gw_at 659 (by decide +kernel) rfl, by decide +kernel⟩, (fun _ h => by cases h)⟩), by decide, by decide, ⟨"java/lang/IllegalStateException", gw_at 660 (by decide +kernel) rfl, gw_at 737 (by decide +kernel) rfl⟩, rfl⟩
set_option maxRecDepth 100000 in
set_option maxHeartbeats 4000000 in
theorem c_L_endDays {G : AG} {M : Nat → Nat → Int32} {n : Nat} (hn : 72 ≤ n) {nc ns nz nb nr t : Nat} (hI : CI M nc ns nz nb nr t)  (d : Int32) : AMet tL_endDays yL_endDays [Cond.codeWith yL_endDays cL_endDays 4 (some .int) [(0, 9, 12, 13), (0, 9, 15, 15)]] [.ref 0, .int d, .ref 71] (wld G M) n (PLh (cd_endDays M d) (M 1 5 + d) G M (enDn M (nbM M) (nrM M) d.toNatClampNeg) n) := by
  refine amet_ofH (lo := [_, _, _, _]) (by decide) rfl (fun q => by cases q) (ble' rfl) (by intro v hv; simp at hv; rcases hv with rfl | rfl | rfl <;> rfl) rfl ?_
  refine aw_aload_n dL_endDays_0 rfl ?_
  refine aw_iconst (v := 0) dL_endDays_1 (by decide) ?_
  refine aw_aload_n dL_endDays_2 rfl ?_
  refine aw_iload_n dL_endDays_3 rfl ?_
  refine aw_tryV (hh := [(0, 9, 12, 13), (0, 9, 15, 15)]) kw_L_101 kv_L_101.2.1 kv_L_101.2.2 ko_X9_endDays (c_X9_endDays hn hI d) dL_endDays_4 e_0 (l_0 hn) rfl rfl rfl rfl (ble' rfl) (by decide) (lc_r (by omega) (lc_i (lc_r (by omega) (lc_n lc_nil)))) (sc_i (sc_r (by omega) sc_nil)) (fun E h' n' hp => ?_) (fun v h' n' hp _ _ => ?_)
  · obtain ⟨rfl, ⟨-, q, -⟩ | ⟨hc0, hE, M', rfl, hs⟩⟩ := hp
    · cases q
    · have hle : (cd_endDays M d) ≤ 2 := by unfold cd_endDays; (repeat' split) <;> decide
      rcases (show (cd_endDays M d) = 1 ∨ (cd_endDays M d) = 2 by omega) with q | q
      · rw [q] at hE
        cases hE
        refine ⟨12, hx_L_endDays_0, Or.inr ⟨3, dL_endDays_12, by decide, ?_⟩⟩
        refine aw_iconst (v := 1) dL_endDays_13 (by decide) ?_
        refine aw_iret rfl dL_endDays_14 (ble' rfl) (ble' rfl) ?_
        exact ⟨rfl, by rw [q]; rfl, G.2.2, M', rfl, fun w => absurd w hc0, fun _ => hs⟩
      · rw [q] at hE
        cases hE
        refine ⟨15, hx_L_endDays_1, Or.inr ⟨3, dL_endDays_15, by decide, ?_⟩⟩
        refine aw_iconst (v := 2) dL_endDays_16 (by decide) ?_
        refine aw_iret rfl dL_endDays_17 (ble' rfl) (ble' rfl) ?_
        exact ⟨rfl, by rw [q]; rfl, G.2.2, M', rfl, fun w => absurd w hc0, fun _ => hs⟩
  · obtain ⟨rfl, ⟨hc0, hv, M', rfl, hs⟩ | ⟨-, q, -⟩⟩ := hp
    · cases hv
      show AW _ _ _ _ _ (.int _ :: _) _ _ _ _
      refine aw_i2l dL_endDays_7 ?_
      refine aw_out hn dL_endDays_8 ?_
      refine aw_goto 18 dL_endDays_9 (by decide) ?_
      refine aw_iconst (v := 0) dL_endDays_18 (by decide) ?_
      refine aw_iret rfl dL_endDays_19 (ble' rfl) (ble' rfl) ?_
      exact ⟨rfl, by rw [hc0]; rfl, _, M', rfl, fun _ => ⟨rfl, hs⟩, fun w => absurd hc0 w⟩
    · cases q

theorem kow_L_close : KOW yL_close cL_close 4 (some .int) [(0, 6, 9, 21), (0, 6, 12, 13), (0, 6, 15, 15)] 3 := ⟨gw_at 1117 (by decide +kernel) rfl, gw_at 127 (by decide +kernel) rfl, by decide +kernel⟩
theorem hx_L_close_0 : HX RL [(0, 6, 9, 21), (0, 6, 12, 13), (0, 6, 15, 15)] 3 "java/lang/IndexOutOfBoundsException" 9 := ⟨[], ⟨0, 6, 9, 21⟩, [⟨0, 6, 12, 13⟩, ⟨0, 6, 15, 15⟩], rfl, (fun _ h => by cases h), by decide, by decide, ⟨"java/lang/IndexOutOfBoundsException", gw_at 755 (by decide +kernel) rfl, gw_at 766 (by decide +kernel) rfl⟩, rfl⟩
theorem hx_L_close_1 : HX RL [(0, 6, 9, 21), (0, 6, 12, 13), (0, 6, 15, 15)] 3 "java/lang/IllegalArgumentException" 12 := ⟨[⟨0, 6, 9, 21⟩], ⟨0, 6, 12, 13⟩, [⟨0, 6, 15, 15⟩], rfl, (List.forall_mem_cons.mpr ⟨Or.inr ⟨by decide, "java/lang/IndexOutOfBoundsException", gw_at 755 (by decide +kernel) rfl, by decide +kernel⟩, (fun _ h => by cases h)⟩), by decide, by decide, ⟨"java/lang/IllegalArgumentException", gw_at 659 (by decide +kernel) rfl, gw_at 670 (by decide +kernel) rfl⟩, rfl⟩
theorem hx_L_close_2 : HX RL [(0, 6, 9, 21), (0, 6, 12, 13), (0, 6, 15, 15)] 3 "java/lang/IllegalStateException" 15 := ⟨[⟨0, 6, 9, 21⟩, ⟨0, 6, 12, 13⟩], ⟨0, 6, 15, 15⟩, [], rfl, (List.forall_mem_cons.mpr ⟨Or.inr ⟨by decide, "java/lang/IndexOutOfBoundsException", gw_at 755 (by decide +kernel) rfl, by decide +kernel⟩, (List.forall_mem_cons.mpr ⟨Or.inr ⟨by decide, "java/lang/IllegalArgumentException", gw_at 659 (by decide +kernel) rfl, by decide +kernel⟩, (fun _ h => by cases h)⟩)⟩), by decide, by decide, ⟨"java/lang/IllegalStateException", gw_at 660 (by decide +kernel) rfl, gw_at 737 (by decide +kernel) rfl⟩, rfl⟩
set_option maxRecDepth 100000 in
set_option maxHeartbeats 4000000 in
theorem c_L_close {G : AG} {M : Nat → Nat → Int32} {n : Nat} (hn : 72 ≤ n) {nc ns nz nb nr t : Nat} (hI : CI M nc ns nz nb nr t)  (x u : Int32) : AMet tL_close yL_close [Cond.codeWith yL_close cL_close 4 (some .int) [(0, 6, 9, 21), (0, 6, 12, 13), (0, 6, 15, 15)]] [.ref 0, .int x, .int u] (wld G M) n (PLv (cd_close M x u) G M (updM M 8 (upd (M 8) x.toNatClampNeg u)) n) := by
  refine amet_ofH (lo := [_, _, _, _]) (by decide) rfl (fun q => by cases q) (ble' rfl) (by intro v hv; simp at hv; rcases hv with rfl | rfl | rfl <;> rfl) rfl ?_
  refine aw_aload_n dL_close_0 rfl ?_
  refine aw_iload_n dL_close_1 rfl ?_
  refine aw_iload_n dL_close_2 rfl ?_
  refine aw_tryV (hh := [(0, 6, 9, 21), (0, 6, 12, 13), (0, 6, 15, 15)]) kw_L_104 kv_L_104.2.1 kv_L_104.2.2 ko_X9_close (c_X9_close hn hI x u) dL_close_3 e_0 (l_0 hn) rfl rfl rfl rfl (ble' rfl) (by decide) (lc_r (by omega) (lc_i (lc_i (lc_n lc_nil)))) sc_nil (fun E h' n' hp => ?_) (fun v h' n' hp _ _ => ?_)
  · obtain ⟨rfl, ⟨-, q, -⟩ | ⟨hc0, hE, M', rfl, hs⟩⟩ := hp
    · cases q
    · have hle : (cd_close M x u) ≤ 3 := by unfold cd_close; (repeat' split) <;> decide
      rcases (show (cd_close M x u) = 1 ∨ (cd_close M x u) = 2 ∨ (cd_close M x u) = 3 by omega) with q | q | q
      · rw [q] at hE
        cases hE
        refine ⟨9, hx_L_close_0, Or.inr ⟨3, dL_close_9, by decide, ?_⟩⟩
        refine aw_iconst (v := 1) dL_close_10 (by decide) ?_
        refine aw_iret rfl dL_close_11 (ble' rfl) (ble' rfl) ?_
        exact ⟨rfl, by rw [q]; rfl, M', rfl, fun w => absurd w hc0, fun _ => hs⟩
      · rw [q] at hE
        cases hE
        refine ⟨12, hx_L_close_1, Or.inr ⟨3, dL_close_12, by decide, ?_⟩⟩
        refine aw_iconst (v := 2) dL_close_13 (by decide) ?_
        refine aw_iret rfl dL_close_14 (ble' rfl) (ble' rfl) ?_
        exact ⟨rfl, by rw [q]; rfl, M', rfl, fun w => absurd w hc0, fun _ => hs⟩
      · rw [q] at hE
        cases hE
        refine ⟨15, hx_L_close_2, Or.inr ⟨3, dL_close_15, by decide, ?_⟩⟩
        refine aw_iconst (v := 3) dL_close_16 (by decide) ?_
        refine aw_iret rfl dL_close_17 (ble' rfl) (ble' rfl) ?_
        exact ⟨rfl, by rw [q]; rfl, M', rfl, fun w => absurd w hc0, fun _ => hs⟩
  · obtain ⟨rfl, ⟨hc0, hv, M', rfl, hs⟩ | ⟨-, q, -⟩⟩ := hp
    · cases hv
      show AW _ _ _ _ _ [] _ _ _ _
      refine aw_goto 18 dL_close_6 (by decide) ?_
      refine aw_iconst (v := 0) dL_close_18 (by decide) ?_
      refine aw_iret rfl dL_close_19 (ble' rfl) (ble' rfl) ?_
      exact ⟨rfl, by rw [hc0]; rfl, M', rfl, fun _ => hs, fun w => absurd hc0 w⟩
    · cases q

theorem kow_L_open : KOW yL_open cL_open 4 (some .int) [(0, 9, 12, 21), (0, 9, 15, 15)] 3 := ⟨gw_at 1130 (by decide +kernel) rfl, gw_at 127 (by decide +kernel) rfl, by decide +kernel⟩
theorem hx_L_open_0 : HX RL [(0, 9, 12, 21), (0, 9, 15, 15)] 4 "java/lang/IndexOutOfBoundsException" 12 := ⟨[], ⟨0, 9, 12, 21⟩, [⟨0, 9, 15, 15⟩], rfl, (fun _ h => by cases h), by decide, by decide, ⟨"java/lang/IndexOutOfBoundsException", gw_at 755 (by decide +kernel) rfl, gw_at 766 (by decide +kernel) rfl⟩, rfl⟩
theorem hx_L_open_1 : HX RL [(0, 9, 12, 21), (0, 9, 15, 15)] 4 "java/lang/IllegalStateException" 15 := ⟨[⟨0, 9, 12, 21⟩], ⟨0, 9, 15, 15⟩, [], rfl, (List.forall_mem_cons.mpr ⟨Or.inr ⟨by decide, "java/lang/IndexOutOfBoundsException", gw_at 755 (by decide +kernel) rfl, by decide +kernel⟩, (fun _ h => by cases h)⟩), by decide, by decide, ⟨"java/lang/IllegalStateException", gw_at 660 (by decide +kernel) rfl, gw_at 737 (by decide +kernel) rfl⟩, rfl⟩
set_option maxRecDepth 100000 in
set_option maxHeartbeats 4000000 in
theorem c_L_open {G : AG} {M : Nat → Nat → Int32} {n : Nat} (hn : 72 ≤ n) {nc ns nz nb nr t : Nat} (hI : CI M nc ns nz nb nr t)  (x : Int32) : AMet tL_open yL_open [Cond.codeWith yL_open cL_open 4 (some .int) [(0, 9, 12, 21), (0, 9, 15, 15)]] [.ref 0, .int x, .ref 71] (wld G M) n (PLh (cd_open M x) (M 8 x.toNatClampNeg) G M (updM M 8 (upd (M 8) x.toNatClampNeg 0)) n) := by
  refine amet_ofH (lo := [_, _, _, _]) (by decide) rfl (fun q => by cases q) (ble' rfl) (by intro v hv; simp at hv; rcases hv with rfl | rfl | rfl <;> rfl) rfl ?_
  refine aw_aload_n dL_open_0 rfl ?_
  refine aw_iconst (v := 0) dL_open_1 (by decide) ?_
  refine aw_aload_n dL_open_2 rfl ?_
  refine aw_iload_n dL_open_3 rfl ?_
  refine aw_tryV (hh := [(0, 9, 12, 21), (0, 9, 15, 15)]) kw_L_108 kv_L_108.2.1 kv_L_108.2.2 ko_X9_open (c_X9_open hn hI x) dL_open_4 e_0 (l_0 hn) rfl rfl rfl rfl (ble' rfl) (by decide) (lc_r (by omega) (lc_i (lc_r (by omega) (lc_n lc_nil)))) (sc_i (sc_r (by omega) sc_nil)) (fun E h' n' hp => ?_) (fun v h' n' hp _ _ => ?_)
  · obtain ⟨rfl, ⟨-, q, -⟩ | ⟨hc0, hE, M', rfl, hs⟩⟩ := hp
    · cases q
    · have hle : (cd_open M x) ≤ 2 := by unfold cd_open; (repeat' split) <;> decide
      rcases (show (cd_open M x) = 1 ∨ (cd_open M x) = 2 by omega) with q | q
      · rw [q] at hE
        cases hE
        refine ⟨12, hx_L_open_0, Or.inr ⟨3, dL_open_12, by decide, ?_⟩⟩
        refine aw_iconst (v := 1) dL_open_13 (by decide) ?_
        refine aw_iret rfl dL_open_14 (ble' rfl) (ble' rfl) ?_
        exact ⟨rfl, by rw [q]; rfl, G.2.2, M', rfl, fun w => absurd w hc0, fun _ => hs⟩
      · rw [q] at hE
        cases hE
        refine ⟨15, hx_L_open_1, Or.inr ⟨3, dL_open_15, by decide, ?_⟩⟩
        refine aw_iconst (v := 2) dL_open_16 (by decide) ?_
        refine aw_iret rfl dL_open_17 (ble' rfl) (ble' rfl) ?_
        exact ⟨rfl, by rw [q]; rfl, G.2.2, M', rfl, fun w => absurd w hc0, fun _ => hs⟩
  · obtain ⟨rfl, ⟨hc0, hv, M', rfl, hs⟩ | ⟨-, q, -⟩⟩ := hp
    · cases hv
      show AW _ _ _ _ _ (.int _ :: _) _ _ _ _
      refine aw_i2l dL_open_7 ?_
      refine aw_out hn dL_open_8 ?_
      refine aw_goto 18 dL_open_9 (by decide) ?_
      refine aw_iconst (v := 0) dL_open_18 (by decide) ?_
      refine aw_iret rfl dL_open_19 (ble' rfl) (ble' rfl) ?_
      exact ⟨rfl, by rw [hc0]; rfl, _, M', rfl, fun _ => ⟨rfl, hs⟩, fun w => absurd hc0 w⟩
    · cases q

theorem kow_L_request : KOW yL_request cL_request 6 (some .int) [(0, 12, 15, 21), (0, 12, 19, 13), (0, 12, 23, 15)] 5 := ⟨gw_at 1138 (by decide +kernel) rfl, gw_at 127 (by decide +kernel) rfl, by decide +kernel⟩
theorem hx_L_request_0 : HX RL [(0, 12, 15, 21), (0, 12, 19, 13), (0, 12, 23, 15)] 7 "java/lang/IndexOutOfBoundsException" 15 := ⟨[], ⟨0, 12, 15, 21⟩, [⟨0, 12, 19, 13⟩, ⟨0, 12, 23, 15⟩], rfl, (fun _ h => by cases h), by decide, by decide, ⟨"java/lang/IndexOutOfBoundsException", gw_at 755 (by decide +kernel) rfl, gw_at 766 (by decide +kernel) rfl⟩, rfl⟩
theorem hx_L_request_1 : HX RL [(0, 12, 15, 21), (0, 12, 19, 13), (0, 12, 23, 15)] 7 "java/lang/IllegalArgumentException" 19 := ⟨[⟨0, 12, 15, 21⟩], ⟨0, 12, 19, 13⟩, [⟨0, 12, 23, 15⟩], rfl, (List.forall_mem_cons.mpr ⟨Or.inr ⟨by decide, "java/lang/IndexOutOfBoundsException", gw_at 755 (by decide +kernel) rfl, by decide +kernel⟩, (fun _ h => by cases h)⟩), by decide, by decide, ⟨"java/lang/IllegalArgumentException", gw_at 659 (by decide +kernel) rfl, gw_at 670 (by decide +kernel) rfl⟩, rfl⟩
theorem hx_L_request_2 : HX RL [(0, 12, 15, 21), (0, 12, 19, 13), (0, 12, 23, 15)] 7 "java/lang/IllegalStateException" 23 := ⟨[⟨0, 12, 15, 21⟩, ⟨0, 12, 19, 13⟩], ⟨0, 12, 23, 15⟩, [], rfl, (List.forall_mem_cons.mpr ⟨Or.inr ⟨by decide, "java/lang/IndexOutOfBoundsException", gw_at 755 (by decide +kernel) rfl, by decide +kernel⟩, (List.forall_mem_cons.mpr ⟨Or.inr ⟨by decide, "java/lang/IllegalArgumentException", gw_at 659 (by decide +kernel) rfl, by decide +kernel⟩, (fun _ h => by cases h)⟩)⟩), by decide, by decide, ⟨"java/lang/IllegalStateException", gw_at 660 (by decide +kernel) rfl, gw_at 737 (by decide +kernel) rfl⟩, rfl⟩
set_option maxRecDepth 100000 in
set_option maxHeartbeats 4000000 in
theorem c_L_request {G : AG} {M : Nat → Nat → Int32} {n : Nat} (hn : 72 ≤ n) {nc ns nz nb nr t : Nat} (hI : CI M nc ns nz nb nr t)  (c a m : Int32) : AMet tL_request yL_request [Cond.codeWith yL_request cL_request 6 (some .int) [(0, 12, 15, 21), (0, 12, 19, 13), (0, 12, 23, 15)]] [.ref 0, .int c, .int a, .int m, .ref 71] (wld G M) n (PLh (cd_request M c a m) (nI nr) G M (addR M nr c a m) n) := by
  refine amet_ofH (lo := [_, _, _, _, _, _]) (by decide) rfl (fun q => by cases q) (ble' rfl) (by intro v hv; simp at hv; rcases hv with rfl | rfl | rfl | rfl | rfl <;> rfl) rfl ?_
  refine aw_aload dL_request_0 rfl ?_
  refine aw_iconst (v := 0) dL_request_2 (by decide) ?_
  refine aw_aload_n dL_request_3 rfl ?_
  refine aw_iload_n dL_request_4 rfl ?_
  refine aw_iload_n dL_request_5 rfl ?_
  refine aw_iload_n dL_request_6 rfl ?_
  refine aw_tryV (hh := [(0, 12, 15, 21), (0, 12, 19, 13), (0, 12, 23, 15)]) kw_L_111 kv_L_111.2.1 kv_L_111.2.2 ko_X9_request (c_X9_request hn hI c a m) dL_request_7 e_0 (l_0 hn) rfl rfl rfl rfl (ble' rfl) (by decide) (lc_r (by omega) (lc_i (lc_i (lc_i (lc_r (by omega) (lc_n lc_nil)))))) (sc_i (sc_r (by omega) sc_nil)) (fun E h' n' hp => ?_) (fun v h' n' hp _ _ => ?_)
  · obtain ⟨rfl, ⟨-, q, -⟩ | ⟨hc0, hE, M', rfl, hs⟩⟩ := hp
    · cases q
    · have hle : (cd_request M c a m) ≤ 3 := by unfold cd_request; (repeat' split) <;> decide
      rcases (show (cd_request M c a m) = 1 ∨ (cd_request M c a m) = 2 ∨ (cd_request M c a m) = 3 by omega) with q | q | q
      · rw [q] at hE
        cases hE
        refine ⟨15, hx_L_request_0, Or.inl ⟨5, dL_request_15, by decide, ?_⟩⟩
        refine aw_iconst (v := 1) dL_request_17 (by decide) ?_
        refine aw_iret rfl dL_request_18 (ble' rfl) (ble' rfl) ?_
        exact ⟨rfl, by rw [q]; rfl, G.2.2, M', rfl, fun w => absurd w hc0, fun _ => hs⟩
      · rw [q] at hE
        cases hE
        refine ⟨19, hx_L_request_1, Or.inl ⟨5, dL_request_19, by decide, ?_⟩⟩
        refine aw_iconst (v := 2) dL_request_21 (by decide) ?_
        refine aw_iret rfl dL_request_22 (ble' rfl) (ble' rfl) ?_
        exact ⟨rfl, by rw [q]; rfl, G.2.2, M', rfl, fun w => absurd w hc0, fun _ => hs⟩
      · rw [q] at hE
        cases hE
        refine ⟨23, hx_L_request_2, Or.inl ⟨5, dL_request_23, by decide, ?_⟩⟩
        refine aw_iconst (v := 3) dL_request_25 (by decide) ?_
        refine aw_iret rfl dL_request_26 (ble' rfl) (ble' rfl) ?_
        exact ⟨rfl, by rw [q]; rfl, G.2.2, M', rfl, fun w => absurd w hc0, fun _ => hs⟩
  · obtain ⟨rfl, ⟨hc0, hv, M', rfl, hs⟩ | ⟨-, q, -⟩⟩ := hp
    · cases hv
      show AW _ _ _ _ _ (.int _ :: _) _ _ _ _
      refine aw_i2l dL_request_10 ?_
      refine aw_out hn dL_request_11 ?_
      refine aw_goto 27 dL_request_12 (by decide) ?_
      refine aw_iconst (v := 0) dL_request_27 (by decide) ?_
      refine aw_iret rfl dL_request_28 (ble' rfl) (ble' rfl) ?_
      exact ⟨rfl, by rw [hc0]; rfl, _, M', rfl, fun _ => ⟨rfl, hs⟩, fun w => absurd hc0 w⟩
    · cases q

theorem kow_L_requestState : KOW yL_requestState cL_requestState 4 (some .int) [(0, 9, 12, 21)] 3 := ⟨gw_at 1150 (by decide +kernel) rfl, gw_at 127 (by decide +kernel) rfl, by decide +kernel⟩
theorem hx_L_requestState_0 : HX RL [(0, 9, 12, 21)] 4 "java/lang/IndexOutOfBoundsException" 12 := ⟨[], ⟨0, 9, 12, 21⟩, [], rfl, (fun _ h => by cases h), by decide, by decide, ⟨"java/lang/IndexOutOfBoundsException", gw_at 755 (by decide +kernel) rfl, gw_at 766 (by decide +kernel) rfl⟩, rfl⟩
set_option maxRecDepth 100000 in
set_option maxHeartbeats 4000000 in
theorem c_L_requestState {G : AG} {M : Nat → Nat → Int32} {n : Nat} (hn : 72 ≤ n) {nc ns nz nb nr t : Nat} (hI : CI M nc ns nz nb nr t)  (x : Int32) : AMet tL_requestState yL_requestState [Cond.codeWith yL_requestState cL_requestState 4 (some .int) [(0, 9, 12, 21)]] [.ref 0, .int x, .ref 71] (wld G M) n (PLh (cd_requestState M x) (M 26 x.toNatClampNeg) G M M n) := by
  refine amet_ofH (lo := [_, _, _, _]) (by decide) rfl (fun q => by cases q) (ble' rfl) (by intro v hv; simp at hv; rcases hv with rfl | rfl | rfl <;> rfl) rfl ?_
  refine aw_aload_n dL_requestState_0 rfl ?_
  refine aw_iconst (v := 0) dL_requestState_1 (by decide) ?_
  refine aw_aload_n dL_requestState_2 rfl ?_
  refine aw_iload_n dL_requestState_3 rfl ?_
  refine aw_tryV (hh := [(0, 9, 12, 21)]) kw_L_114 kv_L_114.2.1 kv_L_114.2.2 ko_X9_requestState (c_X9_requestState hn hI x) dL_requestState_4 e_0 (l_0 hn) rfl rfl rfl rfl (ble' rfl) (by decide) (lc_r (by omega) (lc_i (lc_r (by omega) (lc_n lc_nil)))) (sc_i (sc_r (by omega) sc_nil)) (fun E h' n' hp => ?_) (fun v h' n' hp _ _ => ?_)
  · obtain ⟨rfl, ⟨-, q, -⟩ | ⟨hc0, hE, M', rfl, hs⟩⟩ := hp
    · cases q
    · have hle : (cd_requestState M x) ≤ 1 := by unfold cd_requestState; (repeat' split) <;> decide
      rcases (show (cd_requestState M x) = 1 by omega) with q
      rw [q] at hE
      cases hE
      refine ⟨12, hx_L_requestState_0, Or.inr ⟨3, dL_requestState_12, by decide, ?_⟩⟩
      refine aw_iconst (v := 1) dL_requestState_13 (by decide) ?_
      refine aw_iret rfl dL_requestState_14 (ble' rfl) (ble' rfl) ?_
      exact ⟨rfl, by rw [q]; rfl, G.2.2, M', rfl, fun w => absurd w hc0, fun _ => hs⟩
  · obtain ⟨rfl, ⟨hc0, hv, M', rfl, hs⟩ | ⟨-, q, -⟩⟩ := hp
    · cases hv
      show AW _ _ _ _ _ (.int _ :: _) _ _ _ _
      refine aw_i2l dL_requestState_7 ?_
      refine aw_out hn dL_requestState_8 ?_
      refine aw_goto 15 dL_requestState_9 (by decide) ?_
      refine aw_iconst (v := 0) dL_requestState_15 (by decide) ?_
      refine aw_iret rfl dL_requestState_16 (ble' rfl) (ble' rfl) ?_
      exact ⟨rfl, by rw [hc0]; rfl, _, M', rfl, fun _ => ⟨rfl, hs⟩, fun w => absurd hc0 w⟩
    · cases q

theorem kow_L_bookingOf : KOW yL_bookingOf cL_bookingOf 4 (some .int) [(0, 9, 12, 21)] 3 := ⟨gw_at 1162 (by decide +kernel) rfl, gw_at 127 (by decide +kernel) rfl, by decide +kernel⟩
theorem hx_L_bookingOf_0 : HX RL [(0, 9, 12, 21)] 4 "java/lang/IndexOutOfBoundsException" 12 := ⟨[], ⟨0, 9, 12, 21⟩, [], rfl, (fun _ h => by cases h), by decide, by decide, ⟨"java/lang/IndexOutOfBoundsException", gw_at 755 (by decide +kernel) rfl, gw_at 766 (by decide +kernel) rfl⟩, rfl⟩
set_option maxRecDepth 100000 in
set_option maxHeartbeats 4000000 in
theorem c_L_bookingOf {G : AG} {M : Nat → Nat → Int32} {n : Nat} (hn : 72 ≤ n) {nc ns nz nb nr t : Nat} (hI : CI M nc ns nz nb nr t)  (x : Int32) : AMet tL_bookingOf yL_bookingOf [Cond.codeWith yL_bookingOf cL_bookingOf 4 (some .int) [(0, 9, 12, 21)]] [.ref 0, .int x, .ref 71] (wld G M) n (PLh (cd_bookingOf M x) (M 27 x.toNatClampNeg) G M M n) := by
  refine amet_ofH (lo := [_, _, _, _]) (by decide) rfl (fun q => by cases q) (ble' rfl) (by intro v hv; simp at hv; rcases hv with rfl | rfl | rfl <;> rfl) rfl ?_
  refine aw_aload_n dL_bookingOf_0 rfl ?_
  refine aw_iconst (v := 0) dL_bookingOf_1 (by decide) ?_
  refine aw_aload_n dL_bookingOf_2 rfl ?_
  refine aw_iload_n dL_bookingOf_3 rfl ?_
  refine aw_tryV (hh := [(0, 9, 12, 21)]) kw_L_117 kv_L_117.2.1 kv_L_117.2.2 ko_X9_bookingOf (c_X9_bookingOf hn hI x) dL_bookingOf_4 e_0 (l_0 hn) rfl rfl rfl rfl (ble' rfl) (by decide) (lc_r (by omega) (lc_i (lc_r (by omega) (lc_n lc_nil)))) (sc_i (sc_r (by omega) sc_nil)) (fun E h' n' hp => ?_) (fun v h' n' hp _ _ => ?_)
  · obtain ⟨rfl, ⟨-, q, -⟩ | ⟨hc0, hE, M', rfl, hs⟩⟩ := hp
    · cases q
    · have hle : (cd_bookingOf M x) ≤ 1 := by unfold cd_bookingOf; (repeat' split) <;> decide
      rcases (show (cd_bookingOf M x) = 1 by omega) with q
      rw [q] at hE
      cases hE
      refine ⟨12, hx_L_bookingOf_0, Or.inr ⟨3, dL_bookingOf_12, by decide, ?_⟩⟩
      refine aw_iconst (v := 1) dL_bookingOf_13 (by decide) ?_
      refine aw_iret rfl dL_bookingOf_14 (ble' rfl) (ble' rfl) ?_
      exact ⟨rfl, by rw [q]; rfl, G.2.2, M', rfl, fun w => absurd w hc0, fun _ => hs⟩
  · obtain ⟨rfl, ⟨hc0, hv, M', rfl, hs⟩ | ⟨-, q, -⟩⟩ := hp
    · cases hv
      show AW _ _ _ _ _ (.int _ :: _) _ _ _ _
      refine aw_i2l dL_bookingOf_7 ?_
      refine aw_out hn dL_bookingOf_8 ?_
      refine aw_goto 15 dL_bookingOf_9 (by decide) ?_
      refine aw_iconst (v := 0) dL_bookingOf_15 (by decide) ?_
      refine aw_iret rfl dL_bookingOf_16 (ble' rfl) (ble' rfl) ?_
      exact ⟨rfl, by rw [hc0]; rfl, _, M', rfl, fun _ => ⟨rfl, hs⟩, fun w => absurd hc0 w⟩
    · cases q

theorem kow_L_withdraw : KOW yL_withdraw cL_withdraw 3 (some .int) [(0, 5, 8, 21), (0, 5, 11, 15)] 2 := ⟨gw_at 1169 (by decide +kernel) rfl, gw_at 127 (by decide +kernel) rfl, by decide +kernel⟩
theorem hx_L_withdraw_0 : HX RL [(0, 5, 8, 21), (0, 5, 11, 15)] 2 "java/lang/IndexOutOfBoundsException" 8 := ⟨[], ⟨0, 5, 8, 21⟩, [⟨0, 5, 11, 15⟩], rfl, (fun _ h => by cases h), by decide, by decide, ⟨"java/lang/IndexOutOfBoundsException", gw_at 755 (by decide +kernel) rfl, gw_at 766 (by decide +kernel) rfl⟩, rfl⟩
theorem hx_L_withdraw_1 : HX RL [(0, 5, 8, 21), (0, 5, 11, 15)] 2 "java/lang/IllegalStateException" 11 := ⟨[⟨0, 5, 8, 21⟩], ⟨0, 5, 11, 15⟩, [], rfl, (List.forall_mem_cons.mpr ⟨Or.inr ⟨by decide, "java/lang/IndexOutOfBoundsException", gw_at 755 (by decide +kernel) rfl, by decide +kernel⟩, (fun _ h => by cases h)⟩), by decide, by decide, ⟨"java/lang/IllegalStateException", gw_at 660 (by decide +kernel) rfl, gw_at 737 (by decide +kernel) rfl⟩, rfl⟩
set_option maxRecDepth 100000 in
set_option maxHeartbeats 4000000 in
theorem c_L_withdraw {G : AG} {M : Nat → Nat → Int32} {n : Nat} (hn : 72 ≤ n) {nc ns nz nb nr t : Nat} (hI : CI M nc ns nz nb nr t)  (x : Int32) : AMet tL_withdraw yL_withdraw [Cond.codeWith yL_withdraw cL_withdraw 3 (some .int) [(0, 5, 8, 21), (0, 5, 11, 15)]] [.ref 0, .int x] (wld G M) n (PLv (cd_withdraw M x) G M (updM M 26 (upd (M 26) x.toNatClampNeg 2)) n) := by
  refine amet_ofH (lo := [_, _, _]) (by decide) rfl (fun q => by cases q) (ble' rfl) (by intro v hv; simp at hv; rcases hv with rfl | rfl <;> rfl) rfl ?_
  refine aw_aload_n dL_withdraw_0 rfl ?_
  refine aw_iload_n dL_withdraw_1 rfl ?_
  refine aw_tryV (hh := [(0, 5, 8, 21), (0, 5, 11, 15)]) kw_L_120 kv_L_120.2.1 kv_L_120.2.2 ko_X9_withdraw (c_X9_withdraw hn hI x) dL_withdraw_2 e_0 (l_0 hn) rfl rfl rfl rfl (ble' rfl) (by decide) (lc_r (by omega) (lc_i (lc_n lc_nil))) sc_nil (fun E h' n' hp => ?_) (fun v h' n' hp _ _ => ?_)
  · obtain ⟨rfl, ⟨-, q, -⟩ | ⟨hc0, hE, M', rfl, hs⟩⟩ := hp
    · cases q
    · have hle : (cd_withdraw M x) ≤ 2 := by unfold cd_withdraw; (repeat' split) <;> decide
      rcases (show (cd_withdraw M x) = 1 ∨ (cd_withdraw M x) = 2 by omega) with q | q
      · rw [q] at hE
        cases hE
        refine ⟨8, hx_L_withdraw_0, Or.inr ⟨2, dL_withdraw_8, by decide, ?_⟩⟩
        refine aw_iconst (v := 1) dL_withdraw_9 (by decide) ?_
        refine aw_iret rfl dL_withdraw_10 (ble' rfl) (ble' rfl) ?_
        exact ⟨rfl, by rw [q]; rfl, M', rfl, fun w => absurd w hc0, fun _ => hs⟩
      · rw [q] at hE
        cases hE
        refine ⟨11, hx_L_withdraw_1, Or.inr ⟨2, dL_withdraw_11, by decide, ?_⟩⟩
        refine aw_iconst (v := 2) dL_withdraw_12 (by decide) ?_
        refine aw_iret rfl dL_withdraw_13 (ble' rfl) (ble' rfl) ?_
        exact ⟨rfl, by rw [q]; rfl, M', rfl, fun w => absurd w hc0, fun _ => hs⟩
  · obtain ⟨rfl, ⟨hc0, hv, M', rfl, hs⟩ | ⟨-, q, -⟩⟩ := hp
    · cases hv
      show AW _ _ _ _ _ [] _ _ _ _
      refine aw_goto 14 dL_withdraw_5 (by decide) ?_
      refine aw_iconst (v := 0) dL_withdraw_14 (by decide) ?_
      refine aw_iret rfl dL_withdraw_15 (ble' rfl) (ble' rfl) ?_
      exact ⟨rfl, by rw [hc0]; rfl, M', rfl, fun _ => hs, fun w => absurd hc0 w⟩
    · cases q

theorem kow_L_fill : KOW yL_fill cL_fill 4 (some .int) [(0, 9, 12, 21)] 3 := ⟨gw_at 1176 (by decide +kernel) rfl, gw_at 127 (by decide +kernel) rfl, by decide +kernel⟩
theorem hx_L_fill_0 : HX RL [(0, 9, 12, 21)] 4 "java/lang/IndexOutOfBoundsException" 12 := ⟨[], ⟨0, 9, 12, 21⟩, [], rfl, (fun _ h => by cases h), by decide, by decide, ⟨"java/lang/IndexOutOfBoundsException", gw_at 755 (by decide +kernel) rfl, gw_at 766 (by decide +kernel) rfl⟩, rfl⟩
set_option maxRecDepth 100000 in
set_option maxHeartbeats 4000000 in
theorem c_L_fill {G : AG} {M : Nat → Nat → Int32} {n : Nat} (hn : 72 ≤ n) {nc ns nz nb nr t : Nat} (hI : CI M nc ns nz nb nr t) (hQ : RQI M nr) (c : Int32) : AMet tL_fill yL_fill [Cond.codeWith yL_fill cL_fill 4 (some .int) [(0, 9, 12, 21)]] [.ref 0, .int c, .ref 71] (wld G M) n (PLh (cd_fill M c) (nI (flM c 20 M).1) G M (flM c 20 M).2 n) := by
  refine amet_ofH (lo := [_, _, _, _]) (by decide) rfl (fun q => by cases q) (ble' rfl) (by intro v hv; simp at hv; rcases hv with rfl | rfl | rfl <;> rfl) rfl ?_
  refine aw_aload_n dL_fill_0 rfl ?_
  refine aw_iconst (v := 0) dL_fill_1 (by decide) ?_
  refine aw_aload_n dL_fill_2 rfl ?_
  refine aw_iload_n dL_fill_3 rfl ?_
  refine aw_tryV (hh := [(0, 9, 12, 21)]) kw_L_124 kv_L_124.2.1 kv_L_124.2.2 ko_X9_fill (c_X9_fill hn hI hQ c) dL_fill_4 e_0 (l_0 hn) rfl rfl rfl rfl (ble' rfl) (by decide) (lc_r (by omega) (lc_i (lc_r (by omega) (lc_n lc_nil)))) (sc_i (sc_r (by omega) sc_nil)) (fun E h' n' hp => ?_) (fun v h' n' hp _ _ => ?_)
  · obtain ⟨rfl, ⟨-, q, -⟩ | ⟨hc0, hE, M', rfl, hs⟩⟩ := hp
    · cases q
    · have hle : (cd_fill M c) ≤ 1 := by unfold cd_fill; (repeat' split) <;> decide
      rcases (show (cd_fill M c) = 1 by omega) with q
      rw [q] at hE
      cases hE
      refine ⟨12, hx_L_fill_0, Or.inr ⟨3, dL_fill_12, by decide, ?_⟩⟩
      refine aw_iconst (v := 1) dL_fill_13 (by decide) ?_
      refine aw_iret rfl dL_fill_14 (ble' rfl) (ble' rfl) ?_
      exact ⟨rfl, by rw [q]; rfl, G.2.2, M', rfl, fun w => absurd w hc0, fun _ => hs⟩
  · obtain ⟨rfl, ⟨hc0, hv, M', rfl, hs⟩ | ⟨-, q, -⟩⟩ := hp
    · cases hv
      show AW _ _ _ _ _ (.int _ :: _) _ _ _ _
      refine aw_i2l dL_fill_7 ?_
      refine aw_out hn dL_fill_8 ?_
      refine aw_goto 15 dL_fill_9 (by decide) ?_
      refine aw_iconst (v := 0) dL_fill_15 (by decide) ?_
      refine aw_iret rfl dL_fill_16 (ble' rfl) (ble' rfl) ?_
      exact ⟨rfl, by rw [hc0]; rfl, _, M', rfl, fun _ => ⟨rfl, hs⟩, fun w => absurd hc0 w⟩
    · cases q

theorem kow_L_planSite : KOW yL_planSite cL_planSite 5 (some .int) [(0, 10, 13, 21), (0, 10, 17, 13), (0, 10, 21, 15)] 4 := ⟨gw_at 1196 (by decide +kernel) rfl, gw_at 127 (by decide +kernel) rfl, by decide +kernel⟩
theorem hx_L_planSite_0 : HX RL [(0, 10, 13, 21), (0, 10, 17, 13), (0, 10, 21, 15)] 5 "java/lang/IndexOutOfBoundsException" 13 := ⟨[], ⟨0, 10, 13, 21⟩, [⟨0, 10, 17, 13⟩, ⟨0, 10, 21, 15⟩], rfl, (fun _ h => by cases h), by decide, by decide, ⟨"java/lang/IndexOutOfBoundsException", gw_at 755 (by decide +kernel) rfl, gw_at 766 (by decide +kernel) rfl⟩, rfl⟩
theorem hx_L_planSite_1 : HX RL [(0, 10, 13, 21), (0, 10, 17, 13), (0, 10, 21, 15)] 5 "java/lang/IllegalArgumentException" 17 := ⟨[⟨0, 10, 13, 21⟩], ⟨0, 10, 17, 13⟩, [⟨0, 10, 21, 15⟩], rfl, (List.forall_mem_cons.mpr ⟨Or.inr ⟨by decide, "java/lang/IndexOutOfBoundsException", gw_at 755 (by decide +kernel) rfl, by decide +kernel⟩, (fun _ h => by cases h)⟩), by decide, by decide, ⟨"java/lang/IllegalArgumentException", gw_at 659 (by decide +kernel) rfl, gw_at 670 (by decide +kernel) rfl⟩, rfl⟩
theorem hx_L_planSite_2 : HX RL [(0, 10, 13, 21), (0, 10, 17, 13), (0, 10, 21, 15)] 5 "java/lang/IllegalStateException" 21 := ⟨[⟨0, 10, 13, 21⟩, ⟨0, 10, 17, 13⟩], ⟨0, 10, 21, 15⟩, [], rfl, (List.forall_mem_cons.mpr ⟨Or.inr ⟨by decide, "java/lang/IndexOutOfBoundsException", gw_at 755 (by decide +kernel) rfl, by decide +kernel⟩, (List.forall_mem_cons.mpr ⟨Or.inr ⟨by decide, "java/lang/IllegalArgumentException", gw_at 659 (by decide +kernel) rfl, by decide +kernel⟩, (fun _ h => by cases h)⟩)⟩), by decide, by decide, ⟨"java/lang/IllegalStateException", gw_at 660 (by decide +kernel) rfl, gw_at 737 (by decide +kernel) rfl⟩, rfl⟩
set_option maxRecDepth 100000 in
set_option maxHeartbeats 4000000 in
theorem c_L_planSite {G : AG} {M : Nat → Nat → Int32} {n : Nat} (hn : 72 ≤ n) {nc ns nz nb nr t : Nat} (hI : CI M nc ns nz nb nr t)  (x p : Int32) : AMet tL_planSite yL_planSite [Cond.codeWith yL_planSite cL_planSite 5 (some .int) [(0, 10, 13, 21), (0, 10, 17, 13), (0, 10, 21, 15)]] [.ref 0, .int x, .int p, .ref 71] (wld G M) n (PLh (cd_planSite M x p) ((planM M (nsM M) (nbM M) (nzM M) (M 16 x.toNatClampNeg) p).1 x.toNatClampNeg) G M M n) := by
  refine amet_ofH (lo := [_, _, _, _, _]) (by decide) rfl (fun q => by cases q) (ble' rfl) (by intro v hv; simp at hv; rcases hv with rfl | rfl | rfl | rfl <;> rfl) rfl ?_
  refine aw_aload_n dL_planSite_0 rfl ?_
  refine aw_iconst (v := 0) dL_planSite_1 (by decide) ?_
  refine aw_aload_n dL_planSite_2 rfl ?_
  refine aw_iload_n dL_planSite_3 rfl ?_
  refine aw_iload_n dL_planSite_4 rfl ?_
  refine aw_tryV (hh := [(0, 10, 13, 21), (0, 10, 17, 13), (0, 10, 21, 15)]) kw_L_127 kv_L_127.2.1 kv_L_127.2.2 ko_X9_planSite (c_X9_planSite hn hI x p) dL_planSite_5 e_0 (l_0 hn) rfl rfl rfl rfl (ble' rfl) (by decide) (lc_r (by omega) (lc_i (lc_i (lc_r (by omega) (lc_n lc_nil))))) (sc_i (sc_r (by omega) sc_nil)) (fun E h' n' hp => ?_) (fun v h' n' hp _ _ => ?_)
  · obtain ⟨rfl, ⟨-, q, -⟩ | ⟨hc0, hE, M', rfl, hs⟩⟩ := hp
    · cases q
    · have hle : (cd_planSite M x p) ≤ 3 := by unfold cd_planSite; (repeat' split) <;> decide
      rcases (show (cd_planSite M x p) = 1 ∨ (cd_planSite M x p) = 2 ∨ (cd_planSite M x p) = 3 by omega) with q | q | q
      · rw [q] at hE
        cases hE
        refine ⟨13, hx_L_planSite_0, Or.inl ⟨4, dL_planSite_13, by decide, ?_⟩⟩
        refine aw_iconst (v := 1) dL_planSite_15 (by decide) ?_
        refine aw_iret rfl dL_planSite_16 (ble' rfl) (ble' rfl) ?_
        exact ⟨rfl, by rw [q]; rfl, G.2.2, M', rfl, fun w => absurd w hc0, fun _ => hs⟩
      · rw [q] at hE
        cases hE
        refine ⟨17, hx_L_planSite_1, Or.inl ⟨4, dL_planSite_17, by decide, ?_⟩⟩
        refine aw_iconst (v := 2) dL_planSite_19 (by decide) ?_
        refine aw_iret rfl dL_planSite_20 (ble' rfl) (ble' rfl) ?_
        exact ⟨rfl, by rw [q]; rfl, G.2.2, M', rfl, fun w => absurd w hc0, fun _ => hs⟩
      · rw [q] at hE
        cases hE
        refine ⟨21, hx_L_planSite_2, Or.inl ⟨4, dL_planSite_21, by decide, ?_⟩⟩
        refine aw_iconst (v := 3) dL_planSite_23 (by decide) ?_
        refine aw_iret rfl dL_planSite_24 (ble' rfl) (ble' rfl) ?_
        exact ⟨rfl, by rw [q]; rfl, G.2.2, M', rfl, fun w => absurd w hc0, fun _ => hs⟩
  · obtain ⟨rfl, ⟨hc0, hv, M', rfl, hs⟩ | ⟨-, q, -⟩⟩ := hp
    · cases hv
      show AW _ _ _ _ _ (.int _ :: _) _ _ _ _
      refine aw_i2l dL_planSite_8 ?_
      refine aw_out hn dL_planSite_9 ?_
      refine aw_goto 25 dL_planSite_10 (by decide) ?_
      refine aw_iconst (v := 0) dL_planSite_25 (by decide) ?_
      refine aw_iret rfl dL_planSite_26 (ble' rfl) (ble' rfl) ?_
      exact ⟨rfl, by rw [hc0]; rfl, _, M', rfl, fun _ => ⟨rfl, hs⟩, fun w => absurd hc0 w⟩
    · cases q

theorem kow_L_gapNights : KOW yL_gapNights cL_gapNights 5 (some .int) [(0, 10, 13, 21), (0, 10, 17, 13)] 4 := ⟨gw_at 1226 (by decide +kernel) rfl, gw_at 127 (by decide +kernel) rfl, by decide +kernel⟩
theorem hx_L_gapNights_0 : HX RL [(0, 10, 13, 21), (0, 10, 17, 13)] 5 "java/lang/IndexOutOfBoundsException" 13 := ⟨[], ⟨0, 10, 13, 21⟩, [⟨0, 10, 17, 13⟩], rfl, (fun _ h => by cases h), by decide, by decide, ⟨"java/lang/IndexOutOfBoundsException", gw_at 755 (by decide +kernel) rfl, gw_at 766 (by decide +kernel) rfl⟩, rfl⟩
theorem hx_L_gapNights_1 : HX RL [(0, 10, 13, 21), (0, 10, 17, 13)] 5 "java/lang/IllegalArgumentException" 17 := ⟨[⟨0, 10, 13, 21⟩], ⟨0, 10, 17, 13⟩, [], rfl, (List.forall_mem_cons.mpr ⟨Or.inr ⟨by decide, "java/lang/IndexOutOfBoundsException", gw_at 755 (by decide +kernel) rfl, by decide +kernel⟩, (fun _ h => by cases h)⟩), by decide, by decide, ⟨"java/lang/IllegalArgumentException", gw_at 659 (by decide +kernel) rfl, gw_at 670 (by decide +kernel) rfl⟩, rfl⟩
set_option maxRecDepth 100000 in
set_option maxHeartbeats 4000000 in
theorem c_L_gapNights {G : AG} {M : Nat → Nat → Int32} {n : Nat} (hn : 72 ≤ n) {nc ns nz nb nr t : Nat} (hI : CI M nc ns nz nb nr t)  (c p : Int32) : AMet tL_gapNights yL_gapNights [Cond.codeWith yL_gapNights cL_gapNights 5 (some .int) [(0, 10, 13, 21), (0, 10, 17, 13)]] [.ref 0, .int c, .int p, .ref 71] (wld G M) n (PLh (cd_gapNights M c p) (planM M (nsM M) (nbM M) (nzM M) c p).2.2.1 G M M n) := by
  refine amet_ofH (lo := [_, _, _, _, _]) (by decide) rfl (fun q => by cases q) (ble' rfl) (by intro v hv; simp at hv; rcases hv with rfl | rfl | rfl | rfl <;> rfl) rfl ?_
  refine aw_aload_n dL_gapNights_0 rfl ?_
  refine aw_iconst (v := 0) dL_gapNights_1 (by decide) ?_
  refine aw_aload_n dL_gapNights_2 rfl ?_
  refine aw_iload_n dL_gapNights_3 rfl ?_
  refine aw_iload_n dL_gapNights_4 rfl ?_
  refine aw_tryV (hh := [(0, 10, 13, 21), (0, 10, 17, 13)]) kw_L_130 kv_L_130.2.1 kv_L_130.2.2 ko_X9_gapNights (c_X9_gapNights hn hI c p) dL_gapNights_5 e_0 (l_0 hn) rfl rfl rfl rfl (ble' rfl) (by decide) (lc_r (by omega) (lc_i (lc_i (lc_r (by omega) (lc_n lc_nil))))) (sc_i (sc_r (by omega) sc_nil)) (fun E h' n' hp => ?_) (fun v h' n' hp _ _ => ?_)
  · obtain ⟨rfl, ⟨-, q, -⟩ | ⟨hc0, hE, M', rfl, hs⟩⟩ := hp
    · cases q
    · have hle : (cd_gapNights M c p) ≤ 2 := by unfold cd_gapNights; (repeat' split) <;> decide
      rcases (show (cd_gapNights M c p) = 1 ∨ (cd_gapNights M c p) = 2 by omega) with q | q
      · rw [q] at hE
        cases hE
        refine ⟨13, hx_L_gapNights_0, Or.inl ⟨4, dL_gapNights_13, by decide, ?_⟩⟩
        refine aw_iconst (v := 1) dL_gapNights_15 (by decide) ?_
        refine aw_iret rfl dL_gapNights_16 (ble' rfl) (ble' rfl) ?_
        exact ⟨rfl, by rw [q]; rfl, G.2.2, M', rfl, fun w => absurd w hc0, fun _ => hs⟩
      · rw [q] at hE
        cases hE
        refine ⟨17, hx_L_gapNights_1, Or.inl ⟨4, dL_gapNights_17, by decide, ?_⟩⟩
        refine aw_iconst (v := 2) dL_gapNights_19 (by decide) ?_
        refine aw_iret rfl dL_gapNights_20 (ble' rfl) (ble' rfl) ?_
        exact ⟨rfl, by rw [q]; rfl, G.2.2, M', rfl, fun w => absurd w hc0, fun _ => hs⟩
  · obtain ⟨rfl, ⟨hc0, hv, M', rfl, hs⟩ | ⟨-, q, -⟩⟩ := hp
    · cases hv
      show AW _ _ _ _ _ (.int _ :: _) _ _ _ _
      refine aw_i2l dL_gapNights_8 ?_
      refine aw_out hn dL_gapNights_9 ?_
      refine aw_goto 21 dL_gapNights_10 (by decide) ?_
      refine aw_iconst (v := 0) dL_gapNights_21 (by decide) ?_
      refine aw_iret rfl dL_gapNights_22 (ble' rfl) (ble' rfl) ?_
      exact ⟨rfl, by rw [hc0]; rfl, _, M', rfl, fun _ => ⟨rfl, hs⟩, fun w => absurd hc0 w⟩
    · cases q

theorem kow_L_orphanNights : KOW yL_orphanNights cL_orphanNights 5 (some .int) [(0, 10, 13, 21), (0, 10, 17, 13)] 4 := ⟨gw_at 1233 (by decide +kernel) rfl, gw_at 127 (by decide +kernel) rfl, by decide +kernel⟩
theorem hx_L_orphanNights_0 : HX RL [(0, 10, 13, 21), (0, 10, 17, 13)] 5 "java/lang/IndexOutOfBoundsException" 13 := ⟨[], ⟨0, 10, 13, 21⟩, [⟨0, 10, 17, 13⟩], rfl, (fun _ h => by cases h), by decide, by decide, ⟨"java/lang/IndexOutOfBoundsException", gw_at 755 (by decide +kernel) rfl, gw_at 766 (by decide +kernel) rfl⟩, rfl⟩
theorem hx_L_orphanNights_1 : HX RL [(0, 10, 13, 21), (0, 10, 17, 13)] 5 "java/lang/IllegalArgumentException" 17 := ⟨[⟨0, 10, 13, 21⟩], ⟨0, 10, 17, 13⟩, [], rfl, (List.forall_mem_cons.mpr ⟨Or.inr ⟨by decide, "java/lang/IndexOutOfBoundsException", gw_at 755 (by decide +kernel) rfl, by decide +kernel⟩, (fun _ h => by cases h)⟩), by decide, by decide, ⟨"java/lang/IllegalArgumentException", gw_at 659 (by decide +kernel) rfl, gw_at 670 (by decide +kernel) rfl⟩, rfl⟩
set_option maxRecDepth 100000 in
set_option maxHeartbeats 4000000 in
theorem c_L_orphanNights {G : AG} {M : Nat → Nat → Int32} {n : Nat} (hn : 72 ≤ n) {nc ns nz nb nr t : Nat} (hI : CI M nc ns nz nb nr t)  (c p : Int32) : AMet tL_orphanNights yL_orphanNights [Cond.codeWith yL_orphanNights cL_orphanNights 5 (some .int) [(0, 10, 13, 21), (0, 10, 17, 13)]] [.ref 0, .int c, .int p, .ref 71] (wld G M) n (PLh (cd_orphanNights M c p) (planM M (nsM M) (nbM M) (nzM M) c p).2.2.2 G M M n) := by
  refine amet_ofH (lo := [_, _, _, _, _]) (by decide) rfl (fun q => by cases q) (ble' rfl) (by intro v hv; simp at hv; rcases hv with rfl | rfl | rfl | rfl <;> rfl) rfl ?_
  refine aw_aload_n dL_orphanNights_0 rfl ?_
  refine aw_iconst (v := 0) dL_orphanNights_1 (by decide) ?_
  refine aw_aload_n dL_orphanNights_2 rfl ?_
  refine aw_iload_n dL_orphanNights_3 rfl ?_
  refine aw_iload_n dL_orphanNights_4 rfl ?_
  refine aw_tryV (hh := [(0, 10, 13, 21), (0, 10, 17, 13)]) kw_L_133 kv_L_133.2.1 kv_L_133.2.2 ko_X9_orphanNights (c_X9_orphanNights hn hI c p) dL_orphanNights_5 e_0 (l_0 hn) rfl rfl rfl rfl (ble' rfl) (by decide) (lc_r (by omega) (lc_i (lc_i (lc_r (by omega) (lc_n lc_nil))))) (sc_i (sc_r (by omega) sc_nil)) (fun E h' n' hp => ?_) (fun v h' n' hp _ _ => ?_)
  · obtain ⟨rfl, ⟨-, q, -⟩ | ⟨hc0, hE, M', rfl, hs⟩⟩ := hp
    · cases q
    · have hle : (cd_orphanNights M c p) ≤ 2 := by unfold cd_orphanNights; (repeat' split) <;> decide
      rcases (show (cd_orphanNights M c p) = 1 ∨ (cd_orphanNights M c p) = 2 by omega) with q | q
      · rw [q] at hE
        cases hE
        refine ⟨13, hx_L_orphanNights_0, Or.inl ⟨4, dL_orphanNights_13, by decide, ?_⟩⟩
        refine aw_iconst (v := 1) dL_orphanNights_15 (by decide) ?_
        refine aw_iret rfl dL_orphanNights_16 (ble' rfl) (ble' rfl) ?_
        exact ⟨rfl, by rw [q]; rfl, G.2.2, M', rfl, fun w => absurd w hc0, fun _ => hs⟩
      · rw [q] at hE
        cases hE
        refine ⟨17, hx_L_orphanNights_1, Or.inl ⟨4, dL_orphanNights_17, by decide, ?_⟩⟩
        refine aw_iconst (v := 2) dL_orphanNights_19 (by decide) ?_
        refine aw_iret rfl dL_orphanNights_20 (ble' rfl) (ble' rfl) ?_
        exact ⟨rfl, by rw [q]; rfl, G.2.2, M', rfl, fun w => absurd w hc0, fun _ => hs⟩
  · obtain ⟨rfl, ⟨hc0, hv, M', rfl, hs⟩ | ⟨-, q, -⟩⟩ := hp
    · cases hv
      show AW _ _ _ _ _ (.int _ :: _) _ _ _ _
      refine aw_i2l dL_orphanNights_8 ?_
      refine aw_out hn dL_orphanNights_9 ?_
      refine aw_goto 21 dL_orphanNights_10 (by decide) ?_
      refine aw_iconst (v := 0) dL_orphanNights_21 (by decide) ?_
      refine aw_iret rfl dL_orphanNights_22 (ble' rfl) (ble' rfl) ?_
      exact ⟨rfl, by rw [hc0]; rfl, _, M', rfl, fun _ => ⟨rfl, hs⟩, fun w => absurd hc0 w⟩
    · cases q

theorem kow_L_occupancyNumerator : KOW yL_occupancyNumerator cL_occupancyNumerator 6 (some .int) [(0, 12, 15, 21), (0, 12, 19, 13)] 5 := ⟨gw_at 1240 (by decide +kernel) rfl, gw_at 127 (by decide +kernel) rfl, by decide +kernel⟩
theorem hx_L_occupancyNumerator_0 : HX RL [(0, 12, 15, 21), (0, 12, 19, 13)] 7 "java/lang/IndexOutOfBoundsException" 15 := ⟨[], ⟨0, 12, 15, 21⟩, [⟨0, 12, 19, 13⟩], rfl, (fun _ h => by cases h), by decide, by decide, ⟨"java/lang/IndexOutOfBoundsException", gw_at 755 (by decide +kernel) rfl, gw_at 766 (by decide +kernel) rfl⟩, rfl⟩
theorem hx_L_occupancyNumerator_1 : HX RL [(0, 12, 15, 21), (0, 12, 19, 13)] 7 "java/lang/IllegalArgumentException" 19 := ⟨[⟨0, 12, 15, 21⟩], ⟨0, 12, 19, 13⟩, [], rfl, (List.forall_mem_cons.mpr ⟨Or.inr ⟨by decide, "java/lang/IndexOutOfBoundsException", gw_at 755 (by decide +kernel) rfl, by decide +kernel⟩, (fun _ h => by cases h)⟩), by decide, by decide, ⟨"java/lang/IllegalArgumentException", gw_at 659 (by decide +kernel) rfl, gw_at 670 (by decide +kernel) rfl⟩, rfl⟩
set_option maxRecDepth 100000 in
set_option maxHeartbeats 4000000 in
theorem c_L_occupancyNumerator {G : AG} {M : Nat → Nat → Int32} {n : Nat} (hn : 72 ≤ n) {nc ns nz nb nr t : Nat} (hI : CI M nc ns nz nb nr t)  (c f l : Int32) : AMet tL_occupancyNumerator yL_occupancyNumerator [Cond.codeWith yL_occupancyNumerator cL_occupancyNumerator 6 (some .int) [(0, 12, 15, 21), (0, 12, 19, 13)]] [.ref 0, .int c, .int f, .int l, .ref 71] (wld G M) n (PLh (cd_occupancyNumerator M c f l) (if (tkS M c f.toNatClampNeg l.toNatClampNeg) = 0 ∨ gcdN 64 (tkS M c f.toNatClampNeg l.toNatClampNeg) (cpS M c f.toNatClampNeg l.toNatClampNeg) = 0 then 0 else (tkS M c f.toNatClampNeg l.toNatClampNeg) / gcdN 64 (tkS M c f.toNatClampNeg l.toNatClampNeg) (cpS M c f.toNatClampNeg l.toNatClampNeg)) G M M n) := by
  refine amet_ofH (lo := [_, _, _, _, _, _]) (by decide) rfl (fun q => by cases q) (ble' rfl) (by intro v hv; simp at hv; rcases hv with rfl | rfl | rfl | rfl | rfl <;> rfl) rfl ?_
  refine aw_aload dL_occupancyNumerator_0 rfl ?_
  refine aw_iconst (v := 0) dL_occupancyNumerator_2 (by decide) ?_
  refine aw_aload_n dL_occupancyNumerator_3 rfl ?_
  refine aw_iload_n dL_occupancyNumerator_4 rfl ?_
  refine aw_iload_n dL_occupancyNumerator_5 rfl ?_
  refine aw_iload_n dL_occupancyNumerator_6 rfl ?_
  refine aw_tryV (hh := [(0, 12, 15, 21), (0, 12, 19, 13)]) kw_L_136 kv_L_136.2.1 kv_L_136.2.2 ko_X9_occupancyNumerator (c_X9_occupancyNumerator hn hI c f l) dL_occupancyNumerator_7 e_0 (l_0 hn) rfl rfl rfl rfl (ble' rfl) (by decide) (lc_r (by omega) (lc_i (lc_i (lc_i (lc_r (by omega) (lc_n lc_nil)))))) (sc_i (sc_r (by omega) sc_nil)) (fun E h' n' hp => ?_) (fun v h' n' hp _ _ => ?_)
  · obtain ⟨rfl, ⟨-, q, -⟩ | ⟨hc0, hE, M', rfl, hs⟩⟩ := hp
    · cases q
    · have hle : (cd_occupancyNumerator M c f l) ≤ 2 := by unfold cd_occupancyNumerator; (repeat' split) <;> decide
      rcases (show (cd_occupancyNumerator M c f l) = 1 ∨ (cd_occupancyNumerator M c f l) = 2 by omega) with q | q
      · rw [q] at hE
        cases hE
        refine ⟨15, hx_L_occupancyNumerator_0, Or.inl ⟨5, dL_occupancyNumerator_15, by decide, ?_⟩⟩
        refine aw_iconst (v := 1) dL_occupancyNumerator_17 (by decide) ?_
        refine aw_iret rfl dL_occupancyNumerator_18 (ble' rfl) (ble' rfl) ?_
        exact ⟨rfl, by rw [q]; rfl, G.2.2, M', rfl, fun w => absurd w hc0, fun _ => hs⟩
      · rw [q] at hE
        cases hE
        refine ⟨19, hx_L_occupancyNumerator_1, Or.inl ⟨5, dL_occupancyNumerator_19, by decide, ?_⟩⟩
        refine aw_iconst (v := 2) dL_occupancyNumerator_21 (by decide) ?_
        refine aw_iret rfl dL_occupancyNumerator_22 (ble' rfl) (ble' rfl) ?_
        exact ⟨rfl, by rw [q]; rfl, G.2.2, M', rfl, fun w => absurd w hc0, fun _ => hs⟩
  · obtain ⟨rfl, ⟨hc0, hv, M', rfl, hs⟩ | ⟨-, q, -⟩⟩ := hp
    · cases hv
      show AW _ _ _ _ _ (.int _ :: _) _ _ _ _
      refine aw_i2l dL_occupancyNumerator_10 ?_
      refine aw_out hn dL_occupancyNumerator_11 ?_
      refine aw_goto 23 dL_occupancyNumerator_12 (by decide) ?_
      refine aw_iconst (v := 0) dL_occupancyNumerator_23 (by decide) ?_
      refine aw_iret rfl dL_occupancyNumerator_24 (ble' rfl) (ble' rfl) ?_
      exact ⟨rfl, by rw [hc0]; rfl, _, M', rfl, fun _ => ⟨rfl, hs⟩, fun w => absurd hc0 w⟩
    · cases q

theorem kow_L_occupancyDenominator : KOW yL_occupancyDenominator cL_occupancyDenominator 6 (some .int) [(0, 12, 15, 21), (0, 12, 19, 13)] 5 := ⟨gw_at 1262 (by decide +kernel) rfl, gw_at 127 (by decide +kernel) rfl, by decide +kernel⟩
theorem hx_L_occupancyDenominator_0 : HX RL [(0, 12, 15, 21), (0, 12, 19, 13)] 7 "java/lang/IndexOutOfBoundsException" 15 := ⟨[], ⟨0, 12, 15, 21⟩, [⟨0, 12, 19, 13⟩], rfl, (fun _ h => by cases h), by decide, by decide, ⟨"java/lang/IndexOutOfBoundsException", gw_at 755 (by decide +kernel) rfl, gw_at 766 (by decide +kernel) rfl⟩, rfl⟩
theorem hx_L_occupancyDenominator_1 : HX RL [(0, 12, 15, 21), (0, 12, 19, 13)] 7 "java/lang/IllegalArgumentException" 19 := ⟨[⟨0, 12, 15, 21⟩], ⟨0, 12, 19, 13⟩, [], rfl, (List.forall_mem_cons.mpr ⟨Or.inr ⟨by decide, "java/lang/IndexOutOfBoundsException", gw_at 755 (by decide +kernel) rfl, by decide +kernel⟩, (fun _ h => by cases h)⟩), by decide, by decide, ⟨"java/lang/IllegalArgumentException", gw_at 659 (by decide +kernel) rfl, gw_at 670 (by decide +kernel) rfl⟩, rfl⟩
set_option maxRecDepth 100000 in
set_option maxHeartbeats 4000000 in
theorem c_L_occupancyDenominator {G : AG} {M : Nat → Nat → Int32} {n : Nat} (hn : 72 ≤ n) {nc ns nz nb nr t : Nat} (hI : CI M nc ns nz nb nr t)  (c f l : Int32) : AMet tL_occupancyDenominator yL_occupancyDenominator [Cond.codeWith yL_occupancyDenominator cL_occupancyDenominator 6 (some .int) [(0, 12, 15, 21), (0, 12, 19, 13)]] [.ref 0, .int c, .int f, .int l, .ref 71] (wld G M) n (PLh (cd_occupancyDenominator M c f l) (if (tkS M c f.toNatClampNeg l.toNatClampNeg) = 0 ∨ gcdN 64 (tkS M c f.toNatClampNeg l.toNatClampNeg) (cpS M c f.toNatClampNeg l.toNatClampNeg) = 0 then 1 else (cpS M c f.toNatClampNeg l.toNatClampNeg) / gcdN 64 (tkS M c f.toNatClampNeg l.toNatClampNeg) (cpS M c f.toNatClampNeg l.toNatClampNeg)) G M M n) := by
  refine amet_ofH (lo := [_, _, _, _, _, _]) (by decide) rfl (fun q => by cases q) (ble' rfl) (by intro v hv; simp at hv; rcases hv with rfl | rfl | rfl | rfl | rfl <;> rfl) rfl ?_
  refine aw_aload dL_occupancyDenominator_0 rfl ?_
  refine aw_iconst (v := 0) dL_occupancyDenominator_2 (by decide) ?_
  refine aw_aload_n dL_occupancyDenominator_3 rfl ?_
  refine aw_iload_n dL_occupancyDenominator_4 rfl ?_
  refine aw_iload_n dL_occupancyDenominator_5 rfl ?_
  refine aw_iload_n dL_occupancyDenominator_6 rfl ?_
  refine aw_tryV (hh := [(0, 12, 15, 21), (0, 12, 19, 13)]) kw_L_139 kv_L_139.2.1 kv_L_139.2.2 ko_X9_occupancyDenominator (c_X9_occupancyDenominator hn hI c f l) dL_occupancyDenominator_7 e_0 (l_0 hn) rfl rfl rfl rfl (ble' rfl) (by decide) (lc_r (by omega) (lc_i (lc_i (lc_i (lc_r (by omega) (lc_n lc_nil)))))) (sc_i (sc_r (by omega) sc_nil)) (fun E h' n' hp => ?_) (fun v h' n' hp _ _ => ?_)
  · obtain ⟨rfl, ⟨-, q, -⟩ | ⟨hc0, hE, M', rfl, hs⟩⟩ := hp
    · cases q
    · have hle : (cd_occupancyDenominator M c f l) ≤ 2 := by unfold cd_occupancyDenominator; (repeat' split) <;> decide
      rcases (show (cd_occupancyDenominator M c f l) = 1 ∨ (cd_occupancyDenominator M c f l) = 2 by omega) with q | q
      · rw [q] at hE
        cases hE
        refine ⟨15, hx_L_occupancyDenominator_0, Or.inl ⟨5, dL_occupancyDenominator_15, by decide, ?_⟩⟩
        refine aw_iconst (v := 1) dL_occupancyDenominator_17 (by decide) ?_
        refine aw_iret rfl dL_occupancyDenominator_18 (ble' rfl) (ble' rfl) ?_
        exact ⟨rfl, by rw [q]; rfl, G.2.2, M', rfl, fun w => absurd w hc0, fun _ => hs⟩
      · rw [q] at hE
        cases hE
        refine ⟨19, hx_L_occupancyDenominator_1, Or.inl ⟨5, dL_occupancyDenominator_19, by decide, ?_⟩⟩
        refine aw_iconst (v := 2) dL_occupancyDenominator_21 (by decide) ?_
        refine aw_iret rfl dL_occupancyDenominator_22 (ble' rfl) (ble' rfl) ?_
        exact ⟨rfl, by rw [q]; rfl, G.2.2, M', rfl, fun w => absurd w hc0, fun _ => hs⟩
  · obtain ⟨rfl, ⟨hc0, hv, M', rfl, hs⟩ | ⟨-, q, -⟩⟩ := hp
    · cases hv
      show AW _ _ _ _ _ (.int _ :: _) _ _ _ _
      refine aw_i2l dL_occupancyDenominator_10 ?_
      refine aw_out hn dL_occupancyDenominator_11 ?_
      refine aw_goto 23 dL_occupancyDenominator_12 (by decide) ?_
      refine aw_iconst (v := 0) dL_occupancyDenominator_23 (by decide) ?_
      refine aw_iret rfl dL_occupancyDenominator_24 (ble' rfl) (ble' rfl) ?_
      exact ⟨rfl, by rw [hc0]; rfl, _, M', rfl, fun _ => ⟨rfl, hs⟩, fun w => absurd hc0 w⟩
    · cases q

theorem kow_L_expected : KOW yL_expected cL_expected 6 (some .int) [(0, 12, 15, 21), (0, 12, 19, 13)] 5 := ⟨gw_at 1269 (by decide +kernel) rfl, gw_at 127 (by decide +kernel) rfl, by decide +kernel⟩
theorem hx_L_expected_0 : HX RL [(0, 12, 15, 21), (0, 12, 19, 13)] 7 "java/lang/IndexOutOfBoundsException" 15 := ⟨[], ⟨0, 12, 15, 21⟩, [⟨0, 12, 19, 13⟩], rfl, (fun _ h => by cases h), by decide, by decide, ⟨"java/lang/IndexOutOfBoundsException", gw_at 755 (by decide +kernel) rfl, gw_at 766 (by decide +kernel) rfl⟩, rfl⟩
theorem hx_L_expected_1 : HX RL [(0, 12, 15, 21), (0, 12, 19, 13)] 7 "java/lang/IllegalArgumentException" 19 := ⟨[⟨0, 12, 15, 21⟩], ⟨0, 12, 19, 13⟩, [], rfl, (List.forall_mem_cons.mpr ⟨Or.inr ⟨by decide, "java/lang/IndexOutOfBoundsException", gw_at 755 (by decide +kernel) rfl, by decide +kernel⟩, (fun _ h => by cases h)⟩), by decide, by decide, ⟨"java/lang/IllegalArgumentException", gw_at 659 (by decide +kernel) rfl, gw_at 670 (by decide +kernel) rfl⟩, rfl⟩
set_option maxRecDepth 100000 in
set_option maxHeartbeats 4000000 in
theorem c_L_expected {G : AG} {M : Nat → Nat → Int32} {n : Nat} (hn : 72 ≤ n) {nc ns nz nb nr t : Nat} (hI : CI M nc ns nz nb nr t)  (c d e : Int32) : AMet tL_expected yL_expected [Cond.codeWith yL_expected cL_expected 6 (some .int) [(0, 12, 15, 21), (0, 12, 19, 13)]] [.ref 0, .int c, .int d, .int e, .ref 71] (wld G M) n (PLh (cd_expected M c d e) (nI (cnt (exB (M 16) (M 17) (M 18) (M 20) c d e) (nbM M))) G M M n) := by
  refine amet_ofH (lo := [_, _, _, _, _, _]) (by decide) rfl (fun q => by cases q) (ble' rfl) (by intro v hv; simp at hv; rcases hv with rfl | rfl | rfl | rfl | rfl <;> rfl) rfl ?_
  refine aw_aload dL_expected_0 rfl ?_
  refine aw_iconst (v := 0) dL_expected_2 (by decide) ?_
  refine aw_aload_n dL_expected_3 rfl ?_
  refine aw_iload_n dL_expected_4 rfl ?_
  refine aw_iload_n dL_expected_5 rfl ?_
  refine aw_iload_n dL_expected_6 rfl ?_
  refine aw_tryV (hh := [(0, 12, 15, 21), (0, 12, 19, 13)]) kw_L_142 kv_L_142.2.1 kv_L_142.2.2 ko_X9_expected (c_X9_expected hn hI c d e) dL_expected_7 e_0 (l_0 hn) rfl rfl rfl rfl (ble' rfl) (by decide) (lc_r (by omega) (lc_i (lc_i (lc_i (lc_r (by omega) (lc_n lc_nil)))))) (sc_i (sc_r (by omega) sc_nil)) (fun E h' n' hp => ?_) (fun v h' n' hp _ _ => ?_)
  · obtain ⟨rfl, ⟨-, q, -⟩ | ⟨hc0, hE, M', rfl, hs⟩⟩ := hp
    · cases q
    · have hle : (cd_expected M c d e) ≤ 2 := by unfold cd_expected; (repeat' split) <;> decide
      rcases (show (cd_expected M c d e) = 1 ∨ (cd_expected M c d e) = 2 by omega) with q | q
      · rw [q] at hE
        cases hE
        refine ⟨15, hx_L_expected_0, Or.inl ⟨5, dL_expected_15, by decide, ?_⟩⟩
        refine aw_iconst (v := 1) dL_expected_17 (by decide) ?_
        refine aw_iret rfl dL_expected_18 (ble' rfl) (ble' rfl) ?_
        exact ⟨rfl, by rw [q]; rfl, G.2.2, M', rfl, fun w => absurd w hc0, fun _ => hs⟩
      · rw [q] at hE
        cases hE
        refine ⟨19, hx_L_expected_1, Or.inl ⟨5, dL_expected_19, by decide, ?_⟩⟩
        refine aw_iconst (v := 2) dL_expected_21 (by decide) ?_
        refine aw_iret rfl dL_expected_22 (ble' rfl) (ble' rfl) ?_
        exact ⟨rfl, by rw [q]; rfl, G.2.2, M', rfl, fun w => absurd w hc0, fun _ => hs⟩
  · obtain ⟨rfl, ⟨hc0, hv, M', rfl, hs⟩ | ⟨-, q, -⟩⟩ := hp
    · cases hv
      show AW _ _ _ _ _ (.int _ :: _) _ _ _ _
      refine aw_i2l dL_expected_10 ?_
      refine aw_out hn dL_expected_11 ?_
      refine aw_goto 23 dL_expected_12 (by decide) ?_
      refine aw_iconst (v := 0) dL_expected_23 (by decide) ?_
      refine aw_iret rfl dL_expected_24 (ble' rfl) (ble' rfl) ?_
      exact ⟨rfl, by rw [hc0]; rfl, _, M', rfl, fun _ => ⟨rfl, hs⟩, fun w => absurd hc0 w⟩
    · cases q

theorem kow_L_dearestBooking : KOW yL_dearestBooking cL_dearestBooking 4 (some .int) [(0, 9, 12, 21)] 3 := ⟨gw_at 1284 (by decide +kernel) rfl, gw_at 127 (by decide +kernel) rfl, by decide +kernel⟩
theorem hx_L_dearestBooking_0 : HX RL [(0, 9, 12, 21)] 4 "java/lang/IndexOutOfBoundsException" 12 := ⟨[], ⟨0, 9, 12, 21⟩, [], rfl, (fun _ h => by cases h), by decide, by decide, ⟨"java/lang/IndexOutOfBoundsException", gw_at 755 (by decide +kernel) rfl, gw_at 766 (by decide +kernel) rfl⟩, rfl⟩
set_option maxRecDepth 100000 in
set_option maxHeartbeats 4000000 in
theorem c_L_dearestBooking {G : AG} {M : Nat → Nat → Int32} {n : Nat} (hn : 72 ≤ n) {nc ns nz nb nr t : Nat} (hI : CI M nc ns nz nb nr t)  (c : Int32) : AMet tL_dearestBooking yL_dearestBooking [Cond.codeWith yL_dearestBooking cL_dearestBooking 4 (some .int) [(0, 9, 12, 21)]] [.ref 0, .int c, .ref 71] (wld G M) n (PLh (cd_dearestBooking M c) (bestN (fun b => decide (actP (M 20 b) ∧ M 16 b = c)) (fun k b => decide ((M 19 b).toInt64 * (M 18 k - M 17 k).toInt64 < (M 19 k).toInt64 * (M 18 b - M 17 b).toInt64)) (nbM M)) G M M n) := by
  refine amet_ofH (lo := [_, _, _, _]) (by decide) rfl (fun q => by cases q) (ble' rfl) (by intro v hv; simp at hv; rcases hv with rfl | rfl | rfl <;> rfl) rfl ?_
  refine aw_aload_n dL_dearestBooking_0 rfl ?_
  refine aw_iconst (v := 0) dL_dearestBooking_1 (by decide) ?_
  refine aw_aload_n dL_dearestBooking_2 rfl ?_
  refine aw_iload_n dL_dearestBooking_3 rfl ?_
  refine aw_tryV (hh := [(0, 9, 12, 21)]) kw_L_146 kv_L_146.2.1 kv_L_146.2.2 ko_X9_dearestBooking (c_X9_dearestBooking hn hI c) dL_dearestBooking_4 e_0 (l_0 hn) rfl rfl rfl rfl (ble' rfl) (by decide) (lc_r (by omega) (lc_i (lc_r (by omega) (lc_n lc_nil)))) (sc_i (sc_r (by omega) sc_nil)) (fun E h' n' hp => ?_) (fun v h' n' hp _ _ => ?_)
  · obtain ⟨rfl, ⟨-, q, -⟩ | ⟨hc0, hE, M', rfl, hs⟩⟩ := hp
    · cases q
    · have hle : (cd_dearestBooking M c) ≤ 1 := by unfold cd_dearestBooking; (repeat' split) <;> decide
      rcases (show (cd_dearestBooking M c) = 1 by omega) with q
      rw [q] at hE
      cases hE
      refine ⟨12, hx_L_dearestBooking_0, Or.inr ⟨3, dL_dearestBooking_12, by decide, ?_⟩⟩
      refine aw_iconst (v := 1) dL_dearestBooking_13 (by decide) ?_
      refine aw_iret rfl dL_dearestBooking_14 (ble' rfl) (ble' rfl) ?_
      exact ⟨rfl, by rw [q]; rfl, G.2.2, M', rfl, fun w => absurd w hc0, fun _ => hs⟩
  · obtain ⟨rfl, ⟨hc0, hv, M', rfl, hs⟩ | ⟨-, q, -⟩⟩ := hp
    · cases hv
      show AW _ _ _ _ _ (.int _ :: _) _ _ _ _
      refine aw_i2l dL_dearestBooking_7 ?_
      refine aw_out hn dL_dearestBooking_8 ?_
      refine aw_goto 15 dL_dearestBooking_9 (by decide) ?_
      refine aw_iconst (v := 0) dL_dearestBooking_15 (by decide) ?_
      refine aw_iret rfl dL_dearestBooking_16 (ble' rfl) (ble' rfl) ?_
      exact ⟨rfl, by rw [hc0]; rfl, _, M', rfl, fun _ => ⟨rfl, hs⟩, fun w => absurd hc0 w⟩
    · cases q

theorem kow_L_busiestNight : KOW yL_busiestNight cL_busiestNight 6 (some .int) [(0, 12, 15, 21), (0, 12, 19, 13)] 5 := ⟨gw_at 1295 (by decide +kernel) rfl, gw_at 127 (by decide +kernel) rfl, by decide +kernel⟩
theorem hx_L_busiestNight_0 : HX RL [(0, 12, 15, 21), (0, 12, 19, 13)] 7 "java/lang/IndexOutOfBoundsException" 15 := ⟨[], ⟨0, 12, 15, 21⟩, [⟨0, 12, 19, 13⟩], rfl, (fun _ h => by cases h), by decide, by decide, ⟨"java/lang/IndexOutOfBoundsException", gw_at 755 (by decide +kernel) rfl, gw_at 766 (by decide +kernel) rfl⟩, rfl⟩
theorem hx_L_busiestNight_1 : HX RL [(0, 12, 15, 21), (0, 12, 19, 13)] 7 "java/lang/IllegalArgumentException" 19 := ⟨[⟨0, 12, 15, 21⟩], ⟨0, 12, 19, 13⟩, [], rfl, (List.forall_mem_cons.mpr ⟨Or.inr ⟨by decide, "java/lang/IndexOutOfBoundsException", gw_at 755 (by decide +kernel) rfl, by decide +kernel⟩, (fun _ h => by cases h)⟩), by decide, by decide, ⟨"java/lang/IllegalArgumentException", gw_at 659 (by decide +kernel) rfl, gw_at 670 (by decide +kernel) rfl⟩, rfl⟩
set_option maxRecDepth 100000 in
set_option maxHeartbeats 4000000 in
theorem c_L_busiestNight {G : AG} {M : Nat → Nat → Int32} {n : Nat} (hn : 72 ≤ n) {nc ns nz nb nr t : Nat} (hI : CI M nc ns nz nb nr t)  (c f l : Int32) : AMet tL_busiestNight yL_busiestNight [Cond.codeWith yL_busiestNight cL_busiestNight 6 (some .int) [(0, 12, 15, 21), (0, 12, 19, 13)]] [.ref 0, .int c, .int f, .int l, .ref 71] (wld G M) n (PLh (cd_busiestNight M c f l) (nI (bsyN (fun i => nI (cnt (tkB (M 16) (M 17) (M 18) (M 20) c (nI i)) (nbM M))) f.toNatClampNeg (l.toNatClampNeg - f.toNatClampNeg))) G M M n) := by
  refine amet_ofH (lo := [_, _, _, _, _, _]) (by decide) rfl (fun q => by cases q) (ble' rfl) (by intro v hv; simp at hv; rcases hv with rfl | rfl | rfl | rfl | rfl <;> rfl) rfl ?_
  refine aw_aload dL_busiestNight_0 rfl ?_
  refine aw_iconst (v := 0) dL_busiestNight_2 (by decide) ?_
  refine aw_aload_n dL_busiestNight_3 rfl ?_
  refine aw_iload_n dL_busiestNight_4 rfl ?_
  refine aw_iload_n dL_busiestNight_5 rfl ?_
  refine aw_iload_n dL_busiestNight_6 rfl ?_
  refine aw_tryV (hh := [(0, 12, 15, 21), (0, 12, 19, 13)]) kw_L_149 kv_L_149.2.1 kv_L_149.2.2 ko_X9_busiestNight (c_X9_busiestNight hn hI c f l) dL_busiestNight_7 e_0 (l_0 hn) rfl rfl rfl rfl (ble' rfl) (by decide) (lc_r (by omega) (lc_i (lc_i (lc_i (lc_r (by omega) (lc_n lc_nil)))))) (sc_i (sc_r (by omega) sc_nil)) (fun E h' n' hp => ?_) (fun v h' n' hp _ _ => ?_)
  · obtain ⟨rfl, ⟨-, q, -⟩ | ⟨hc0, hE, M', rfl, hs⟩⟩ := hp
    · cases q
    · have hle : (cd_busiestNight M c f l) ≤ 2 := by unfold cd_busiestNight; (repeat' split) <;> decide
      rcases (show (cd_busiestNight M c f l) = 1 ∨ (cd_busiestNight M c f l) = 2 by omega) with q | q
      · rw [q] at hE
        cases hE
        refine ⟨15, hx_L_busiestNight_0, Or.inl ⟨5, dL_busiestNight_15, by decide, ?_⟩⟩
        refine aw_iconst (v := 1) dL_busiestNight_17 (by decide) ?_
        refine aw_iret rfl dL_busiestNight_18 (ble' rfl) (ble' rfl) ?_
        exact ⟨rfl, by rw [q]; rfl, G.2.2, M', rfl, fun w => absurd w hc0, fun _ => hs⟩
      · rw [q] at hE
        cases hE
        refine ⟨19, hx_L_busiestNight_1, Or.inl ⟨5, dL_busiestNight_19, by decide, ?_⟩⟩
        refine aw_iconst (v := 2) dL_busiestNight_21 (by decide) ?_
        refine aw_iret rfl dL_busiestNight_22 (ble' rfl) (ble' rfl) ?_
        exact ⟨rfl, by rw [q]; rfl, G.2.2, M', rfl, fun w => absurd w hc0, fun _ => hs⟩
  · obtain ⟨rfl, ⟨hc0, hv, M', rfl, hs⟩ | ⟨-, q, -⟩⟩ := hp
    · cases hv
      show AW _ _ _ _ _ (.int _ :: _) _ _ _ _
      refine aw_i2l dL_busiestNight_10 ?_
      refine aw_out hn dL_busiestNight_11 ?_
      refine aw_goto 23 dL_busiestNight_12 (by decide) ?_
      refine aw_iconst (v := 0) dL_busiestNight_23 (by decide) ?_
      refine aw_iret rfl dL_busiestNight_24 (ble' rfl) (ble' rfl) ?_
      exact ⟨rfl, by rw [hc0]; rfl, _, M', rfl, fun _ => ⟨rfl, hs⟩, fun w => absurd hc0 w⟩
    · cases q

theorem kow_L_appendText : KOW yL_appendText cL_appendText 4 (some .int) [(0, 9, 12, 15)] 3 := ⟨gw_at 1302 (by decide +kernel) rfl, gw_at 127 (by decide +kernel) rfl, by decide +kernel⟩
theorem hx_L_appendText_0 : HX RL [(0, 9, 12, 15)] 4 "java/lang/IllegalStateException" 12 := ⟨[], ⟨0, 9, 12, 15⟩, [], rfl, (fun _ h => by cases h), by decide, by decide, ⟨"java/lang/IllegalStateException", gw_at 660 (by decide +kernel) rfl, gw_at 737 (by decide +kernel) rfl⟩, rfl⟩
set_option maxRecDepth 100000 in
set_option maxHeartbeats 4000000 in
theorem c_L_appendText {G : AG} {M : Nat → Nat → Int32} {n : Nat} (hn : 72 ≤ n)  {k : Nat} (hk : M 0 7 = nI k) (hk5 : k ≤ 500) (f : Int32) : AMet tL_appendText yL_appendText [Cond.codeWith yL_appendText cL_appendText 4 (some .int) [(0, 9, 12, 15)]] [.ref 0, .int f, .ref 71] (wld G M) n (PLh (cd_appendText M f) (nI (k + 4)) G M (apM M k f) n) := by
  refine amet_ofH (lo := [_, _, _, _]) (by decide) rfl (fun q => by cases q) (ble' rfl) (by intro v hv; simp at hv; rcases hv with rfl | rfl | rfl <;> rfl) rfl ?_
  refine aw_aload_n dL_appendText_0 rfl ?_
  refine aw_iconst (v := 0) dL_appendText_1 (by decide) ?_
  refine aw_aload_n dL_appendText_2 rfl ?_
  refine aw_iload_n dL_appendText_3 rfl ?_
  refine aw_tryV (hh := [(0, 9, 12, 15)]) kw_L_152 kv_L_152.2.1 kv_L_152.2.2 ko_X9_appendText (c_X9_appendText hn hk hk5 f) dL_appendText_4 e_0 (l_0 hn) rfl rfl rfl rfl (ble' rfl) (by decide) (lc_r (by omega) (lc_i (lc_r (by omega) (lc_n lc_nil)))) (sc_i (sc_r (by omega) sc_nil)) (fun E h' n' hp => ?_) (fun v h' n' hp _ _ => ?_)
  · obtain ⟨rfl, ⟨-, q, -⟩ | ⟨hc0, hE, M', rfl, hs⟩⟩ := hp
    · cases q
    · have hle : (cd_appendText M f) ≤ 1 := by unfold cd_appendText; (repeat' split) <;> decide
      rcases (show (cd_appendText M f) = 1 by omega) with q
      rw [q] at hE
      cases hE
      refine ⟨12, hx_L_appendText_0, Or.inr ⟨3, dL_appendText_12, by decide, ?_⟩⟩
      refine aw_iconst (v := 1) dL_appendText_13 (by decide) ?_
      refine aw_iret rfl dL_appendText_14 (ble' rfl) (ble' rfl) ?_
      exact ⟨rfl, by rw [q]; rfl, G.2.2, M', rfl, fun w => absurd w hc0, fun _ => hs⟩
  · obtain ⟨rfl, ⟨hc0, hv, M', rfl, hs⟩ | ⟨-, q, -⟩⟩ := hp
    · cases hv
      show AW _ _ _ _ _ (.int _ :: _) _ _ _ _
      refine aw_i2l dL_appendText_7 ?_
      refine aw_out hn dL_appendText_8 ?_
      refine aw_goto 15 dL_appendText_9 (by decide) ?_
      refine aw_iconst (v := 0) dL_appendText_15 (by decide) ?_
      refine aw_iret rfl dL_appendText_16 (ble' rfl) (ble' rfl) ?_
      exact ⟨rfl, by rw [hc0]; rfl, _, M', rfl, fun _ => ⟨rfl, hs⟩, fun w => absurd hc0 w⟩
    · cases q

theorem kow_L_truncateText : KOW yL_truncateText cL_truncateText 4 (some .int) [(0, 9, 12, 13)] 3 := ⟨gw_at 1310 (by decide +kernel) rfl, gw_at 127 (by decide +kernel) rfl, by decide +kernel⟩
theorem hx_L_truncateText_0 : HX RL [(0, 9, 12, 13)] 4 "java/lang/IllegalArgumentException" 12 := ⟨[], ⟨0, 9, 12, 13⟩, [], rfl, (fun _ h => by cases h), by decide, by decide, ⟨"java/lang/IllegalArgumentException", gw_at 659 (by decide +kernel) rfl, gw_at 670 (by decide +kernel) rfl⟩, rfl⟩
set_option maxRecDepth 100000 in
set_option maxHeartbeats 4000000 in
theorem c_L_truncateText {G : AG} {M : Nat → Nat → Int32} {n : Nat} (hn : 72 ≤ n)   (l : Int32) : AMet tL_truncateText yL_truncateText [Cond.codeWith yL_truncateText cL_truncateText 4 (some .int) [(0, 9, 12, 13)]] [.ref 0, .int l, .ref 71] (wld G M) n (PLh (cd_truncateText M l) l G M (updM M 0 (upd (M 0) 7 l)) n) := by
  refine amet_ofH (lo := [_, _, _, _]) (by decide) rfl (fun q => by cases q) (ble' rfl) (by intro v hv; simp at hv; rcases hv with rfl | rfl | rfl <;> rfl) rfl ?_
  refine aw_aload_n dL_truncateText_0 rfl ?_
  refine aw_iconst (v := 0) dL_truncateText_1 (by decide) ?_
  refine aw_aload_n dL_truncateText_2 rfl ?_
  refine aw_iload_n dL_truncateText_3 rfl ?_
  refine aw_tryV (hh := [(0, 9, 12, 13)]) kw_L_155 kv_L_155.2.1 kv_L_155.2.2 ko_X9_truncateText (c_X9_truncateText hn l) dL_truncateText_4 e_0 (l_0 hn) rfl rfl rfl rfl (ble' rfl) (by decide) (lc_r (by omega) (lc_i (lc_r (by omega) (lc_n lc_nil)))) (sc_i (sc_r (by omega) sc_nil)) (fun E h' n' hp => ?_) (fun v h' n' hp _ _ => ?_)
  · obtain ⟨rfl, ⟨-, q, -⟩ | ⟨hc0, hE, M', rfl, hs⟩⟩ := hp
    · cases q
    · have hle : (cd_truncateText M l) ≤ 1 := by unfold cd_truncateText; (repeat' split) <;> decide
      rcases (show (cd_truncateText M l) = 1 by omega) with q
      rw [q] at hE
      cases hE
      refine ⟨12, hx_L_truncateText_0, Or.inr ⟨3, dL_truncateText_12, by decide, ?_⟩⟩
      refine aw_iconst (v := 1) dL_truncateText_13 (by decide) ?_
      refine aw_iret rfl dL_truncateText_14 (ble' rfl) (ble' rfl) ?_
      exact ⟨rfl, by rw [q]; rfl, G.2.2, M', rfl, fun w => absurd w hc0, fun _ => hs⟩
  · obtain ⟨rfl, ⟨hc0, hv, M', rfl, hs⟩ | ⟨-, q, -⟩⟩ := hp
    · cases hv
      show AW _ _ _ _ _ (.int _ :: _) _ _ _ _
      refine aw_i2l dL_truncateText_7 ?_
      refine aw_out hn dL_truncateText_8 ?_
      refine aw_goto 15 dL_truncateText_9 (by decide) ?_
      refine aw_iconst (v := 0) dL_truncateText_15 (by decide) ?_
      refine aw_iret rfl dL_truncateText_16 (ble' rfl) (ble' rfl) ?_
      exact ⟨rfl, by rw [hc0]; rfl, _, M', rfl, fun _ => ⟨rfl, hs⟩, fun w => absurd hc0 w⟩
    · cases q
