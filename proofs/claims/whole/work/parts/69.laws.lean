theorem kow_L_restore : KOW yL_restore cL_restore 3 (some .int) [(0, 5, 8, 13), (0, 5, 11, 15)] 2 := ⟨gw_at 1324 (by decide +kernel) rfl, gw_at 127 (by decide +kernel) rfl, by decide +kernel⟩
theorem hx_L_restore_0 : HX RL [(0, 5, 8, 13), (0, 5, 11, 15)] 2 "java/lang/IllegalArgumentException" 8 := ⟨[], ⟨0, 5, 8, 13⟩, [⟨0, 5, 11, 15⟩], rfl, (fun _ h => by cases h), by decide, by decide, ⟨"java/lang/IllegalArgumentException", gw_at 659 (by decide +kernel) rfl, gw_at 670 (by decide +kernel) rfl⟩, rfl⟩
theorem hx_L_restore_1 : HX RL [(0, 5, 8, 13), (0, 5, 11, 15)] 2 "java/lang/IllegalStateException" 11 := ⟨[⟨0, 5, 8, 13⟩], ⟨0, 5, 11, 15⟩, [], rfl, (List.forall_mem_cons.mpr ⟨Or.inr ⟨by decide, "java/lang/IllegalArgumentException", gw_at 659 (by decide +kernel) rfl, by decide +kernel⟩, (fun _ h => by cases h)⟩), by decide, by decide, ⟨"java/lang/IllegalStateException", gw_at 660 (by decide +kernel) rfl, gw_at 737 (by decide +kernel) rfl⟩, rfl⟩
set_option maxRecDepth 100000 in
set_option maxHeartbeats 4000000 in
theorem c_L_restore {G : AG} {M : Nat → Nat → Int32} {n : Nat} (hn : 72 ≤ n) (hG : GS G n) (x : Int32) : AMet tL_restore yL_restore [Cond.codeWith yL_restore cL_restore 3 (some .int) [(0, 5, 8, 13), (0, 5, 11, 15)]] [.ref 0, .int x] (wld G M) n (PLv (cd_restore G x) G M (rsC G M x.toNatClampNeg) n) := by
  refine amet_ofH (lo := [_, _, _]) (by decide) rfl (fun q => by cases q) (ble' rfl) (by intro v hv; simp at hv; rcases hv with rfl | rfl <;> rfl) rfl ?_
  refine aw_aload_n dL_restore_0 rfl ?_
  refine aw_iload_n dL_restore_1 rfl ?_
  refine aw_tryV (hh := [(0, 5, 8, 13), (0, 5, 11, 15)]) kw_L_161 kv_L_161.2.1 kv_L_161.2.2 ko_X9_restore (c_X9_restore hn hG x) dL_restore_2 e_0 (l_0 hn) rfl rfl rfl rfl (ble' rfl) (by decide) (lc_r (by omega) (lc_i (lc_n lc_nil))) sc_nil (fun E h' n' hp => ?_) (fun v h' n' hp _ _ => ?_)
  · obtain ⟨rfl, ⟨-, q, -⟩ | ⟨hc0, hE, M', rfl, hs⟩⟩ := hp
    · cases q
    · have hle : (cd_restore G x) ≤ 2 := by unfold cd_restore; (repeat' split) <;> decide
      rcases (show (cd_restore G x) = 1 ∨ (cd_restore G x) = 2 by omega) with q | q
      · rw [q] at hE
        cases hE
        refine ⟨8, hx_L_restore_0, Or.inr ⟨2, dL_restore_8, by decide, ?_⟩⟩
        refine aw_iconst (v := 1) dL_restore_9 (by decide) ?_
        refine aw_iret rfl dL_restore_10 (ble' rfl) (ble' rfl) ?_
        exact ⟨rfl, by rw [q]; rfl, M', rfl, fun w => absurd w hc0, fun _ => hs⟩
      · rw [q] at hE
        cases hE
        refine ⟨11, hx_L_restore_1, Or.inr ⟨2, dL_restore_11, by decide, ?_⟩⟩
        refine aw_iconst (v := 2) dL_restore_12 (by decide) ?_
        refine aw_iret rfl dL_restore_13 (ble' rfl) (ble' rfl) ?_
        exact ⟨rfl, by rw [q]; rfl, M', rfl, fun w => absurd w hc0, fun _ => hs⟩
  · obtain ⟨rfl, ⟨hc0, hv, M', rfl, hs⟩ | ⟨-, q, -⟩⟩ := hp
    · cases hv
      show AW _ _ _ _ _ [] _ _ _ _
      refine aw_goto 14 dL_restore_5 (by decide) ?_
      refine aw_iconst (v := 0) dL_restore_14 (by decide) ?_
      refine aw_iret rfl dL_restore_15 (ble' rfl) (ble' rfl) ?_
      exact ⟨rfl, by rw [hc0]; rfl, M', rfl, fun _ => hs, fun w => absurd hc0 w⟩
    · cases q

theorem kow_L_save : KOW yL_save cL_save 3 (some .int) [(0, 5, 8, 13)] 2 := ⟨gw_at 1317 (by decide +kernel) rfl, gw_at 127 (by decide +kernel) rfl, by decide +kernel⟩
theorem hx_L_save_0 : HX RL [(0, 5, 8, 13)] 2 "java/lang/IllegalArgumentException" 8 := ⟨[], ⟨0, 5, 8, 13⟩, [], rfl, (fun _ h => by cases h), by decide, by decide, ⟨"java/lang/IllegalArgumentException", gw_at 659 (by decide +kernel) rfl, gw_at 670 (by decide +kernel) rfl⟩, rfl⟩
def PLs (G : AG) (M : Nat → Nat → Int32) (x : Int32) (n : Nat) : APost := fun o h' n' => o = .inl (some (.int (nI (cd_save x)))) ∧ ((cd_save x = 1 ∧ h' = wld G M ∧ n' = n) ∨ (cd_save x = 0 ∧ ∃ b M0, h' = wld (va_up G.1 x.toNatClampNeg (some b), G.2) (cpB b M0) ∧ ((G.1 x.toNatClampNeg = some b ∧ n' = n ∧ M0 = M) ∨ (G.1 x.toNatClampNeg = none ∧ b = n ∧ n' = n + 27 ∧ M0 = z27 M n)) ∧ (b = 72 ∨ b = 99)))
set_option maxRecDepth 100000 in
set_option maxHeartbeats 4000000 in
theorem c_L_save {G : AG} {M : Nat → Nat → Int32} {n : Nat} (hn : 72 ≤ n) (hG : GS G n) (x : Int32) (hf : G.1 x.toNatClampNeg = none → n = 72 ∨ n = 99) : AMet tL_save yL_save [Cond.codeWith yL_save cL_save 3 (some .int) [(0, 5, 8, 13)]] [.ref 0, .int x] (wld G M) n (PLs G M x n) := by
  refine amet_ofH (lo := [_, _, _]) (by decide) rfl (fun q => by cases q) (ble' rfl) (by intro v hv; simp at hv; rcases hv with rfl | rfl <;> rfl) rfl ?_
  refine aw_aload_n dL_save_0 rfl ?_
  refine aw_iload_n dL_save_1 rfl ?_
  refine aw_tryV (hh := [(0, 5, 8, 13)]) kw_L_158 kv_L_158.2.1 kv_L_158.2.2 ko_X9_save (c_X9_save hn hG x hf) dL_save_2 e_0 (l_0 hn) rfl rfl rfl rfl (ble' rfl) (by decide) (lc_r (by omega) (lc_i (lc_n lc_nil))) sc_nil (fun E h' n' hp => ?_) (fun v h' n' hp _ _ => ?_)
  · rcases hp with ⟨q, hE, rfl, rfl⟩ | ⟨-, q, -⟩
    · cases hE
      refine ⟨8, hx_L_save_0, Or.inr ⟨2, dL_save_8, by decide, ?_⟩⟩
      refine aw_iconst (v := 1) dL_save_9 (by decide) ?_
      refine aw_iret rfl dL_save_10 (ble' rfl) (ble' rfl) ?_
      exact ⟨by rw [q]; rfl, Or.inl ⟨q, rfl, rfl⟩⟩
    · cases q
  · rcases hp with ⟨-, q, -⟩ | ⟨q, hv, hr⟩
    · cases q
    · cases hv
      show AW _ _ _ _ _ [] _ _ _ _
      refine aw_goto 11 dL_save_5 (by decide) ?_
      refine aw_iconst (v := 0) dL_save_11 (by decide) ?_
      refine aw_iret rfl dL_save_12 (ble' rfl) (ble' rfl) ?_
      exact ⟨by rw [q]; rfl, Or.inr ⟨q, hr⟩⟩
