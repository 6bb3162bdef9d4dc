theorem kl_L_168 : Cond.methodLink RL 168 yL_addClass ∈ GW := gw_at 656 (by decide +kernel) rfl
theorem kt_L_168 : Cond.static yL_addClass ∈ GW := gw_at 657 (by decide +kernel) rfl
theorem kl_L_178 : Cond.methodLink RL 178 yL_addSite ∈ GW := gw_at 752 (by decide +kernel) rfl
theorem kt_L_178 : Cond.static yL_addSite ∈ GW := gw_at 753 (by decide +kernel) rfl
theorem kl_L_182 : Cond.methodLink RL 182 yL_addSeason ∈ GW := gw_at 782 (by decide +kernel) rfl
theorem kt_L_182 : Cond.static yL_addSeason ∈ GW := gw_at 783 (by decide +kernel) rfl
theorem kl_L_194 : Cond.methodLink RL 194 yL_classOf ∈ GW := gw_at 791 (by decide +kernel) rfl
theorem kt_L_194 : Cond.static yL_classOf ∈ GW := gw_at 792 (by decide +kernel) rfl
theorem kl_L_197 : Cond.methodLink RL 197 yL_minimum ∈ GW := gw_at 803 (by decide +kernel) rfl
theorem kt_L_197 : Cond.static yL_minimum ∈ GW := gw_at 804 (by decide +kernel) rfl
theorem kl_L_201 : Cond.methodLink RL 201 yL_price ∈ GW := gw_at 818 (by decide +kernel) rfl
theorem kt_L_201 : Cond.static yL_price ∈ GW := gw_at 819 (by decide +kernel) rfl
theorem kl_L_204 : Cond.methodLink RL 204 yL_capacity ∈ GW := gw_at 829 (by decide +kernel) rfl
theorem kt_L_204 : Cond.static yL_capacity ∈ GW := gw_at 830 (by decide +kernel) rfl
theorem kl_L_207 : Cond.methodLink RL 207 yL_released ∈ GW := gw_at 844 (by decide +kernel) rfl
theorem kt_L_207 : Cond.static yL_released ∈ GW := gw_at 845 (by decide +kernel) rfl
theorem kl_L_210 : Cond.methodLink RL 210 yL_taken ∈ GW := gw_at 860 (by decide +kernel) rfl
theorem kt_L_210 : Cond.static yL_taken ∈ GW := gw_at 861 (by decide +kernel) rfl
theorem kl_L_213 : Cond.methodLink RL 213 yL_available ∈ GW := gw_at 875 (by decide +kernel) rfl
theorem kt_L_213 : Cond.static yL_available ∈ GW := gw_at 876 (by decide +kernel) rfl
theorem kl_L_216 : Cond.methodLink RL 216 yL_obstacle ∈ GW := gw_at 885 (by decide +kernel) rfl
theorem kt_L_216 : Cond.static yL_obstacle ∈ GW := gw_at 886 (by decide +kernel) rfl
theorem kl_L_219 : Cond.methodLink RL 219 yL_longestStay ∈ GW := gw_at 922 (by decide +kernel) rfl
theorem kt_L_219 : Cond.static yL_longestStay ∈ GW := gw_at 923 (by decide +kernel) rfl
theorem kl_L_222 : Cond.methodLink RL 222 yL_cheapestArrival ∈ GW := gw_at 929 (by decide +kernel) rfl
theorem kt_L_222 : Cond.static yL_cheapestArrival ∈ GW := gw_at 930 (by decide +kernel) rfl
theorem kl_L_226 : Cond.methodLink RL 226 yL_nextGap ∈ GW := gw_at 941 (by decide +kernel) rfl
theorem kt_L_226 : Cond.static yL_nextGap ∈ GW := gw_at 942 (by decide +kernel) rfl
theorem kl_L_229 : Cond.methodLink RL 229 yL_book ∈ GW := gw_at 949 (by decide +kernel) rfl
theorem kt_L_229 : Cond.static yL_book ∈ GW := gw_at 950 (by decide +kernel) rfl
theorem kl_L_236 : Cond.methodLink RL 236 yL_bookingState ∈ GW := gw_at 970 (by decide +kernel) rfl
theorem kt_L_236 : Cond.static yL_bookingState ∈ GW := gw_at 971 (by decide +kernel) rfl
theorem kl_L_239 : Cond.methodLink RL 239 yL_bookingClass ∈ GW := gw_at 982 (by decide +kernel) rfl
theorem kt_L_239 : Cond.static yL_bookingClass ∈ GW := gw_at 983 (by decide +kernel) rfl
theorem kl_L_242 : Cond.methodLink RL 242 yL_arrival ∈ GW := gw_at 989 (by decide +kernel) rfl
theorem kt_L_242 : Cond.static yL_arrival ∈ GW := gw_at 990 (by decide +kernel) rfl
theorem kl_L_245 : Cond.methodLink RL 245 yL_departure ∈ GW := gw_at 996 (by decide +kernel) rfl
theorem kt_L_245 : Cond.static yL_departure ∈ GW := gw_at 997 (by decide +kernel) rfl
theorem kl_L_248 : Cond.methodLink RL 248 yL_cost ∈ GW := gw_at 1003 (by decide +kernel) rfl
theorem kt_L_248 : Cond.static yL_cost ∈ GW := gw_at 1004 (by decide +kernel) rfl
theorem kl_L_251 : Cond.methodLink RL 251 yL_siteOf ∈ GW := gw_at 1010 (by decide +kernel) rfl
theorem kt_L_251 : Cond.static yL_siteOf ∈ GW := gw_at 1011 (by decide +kernel) rfl
theorem kl_L_254 : Cond.methodLink RL 254 yL_cancel ∈ GW := gw_at 1017 (by decide +kernel) rfl
theorem kt_L_254 : Cond.static yL_cancel ∈ GW := gw_at 1018 (by decide +kernel) rfl
theorem kl_L_257 : Cond.methodLink RL 257 yL_vacantSite ∈ GW := gw_at 1032 (by decide +kernel) rfl
theorem kt_L_257 : Cond.static yL_vacantSite ∈ GW := gw_at 1033 (by decide +kernel) rfl
theorem kl_L_260 : Cond.methodLink RL 260 yL_checkIn ∈ GW := gw_at 1055 (by decide +kernel) rfl
theorem kt_L_260 : Cond.static yL_checkIn ∈ GW := gw_at 1056 (by decide +kernel) rfl
theorem kl_L_263 : Cond.methodLink RL 263 yL_move ∈ GW := gw_at 1068 (by decide +kernel) rfl
theorem kt_L_263 : Cond.static yL_move ∈ GW := gw_at 1069 (by decide +kernel) rfl
theorem kl_L_266 : Cond.methodLink RL 266 yL_departEarly ∈ GW := gw_at 1075 (by decide +kernel) rfl
theorem kt_L_266 : Cond.static yL_departEarly ∈ GW := gw_at 1076 (by decide +kernel) rfl
theorem kl_L_269 : Cond.methodLink RL 269 yL_extend ∈ GW := gw_at 1086 (by decide +kernel) rfl
theorem kt_L_269 : Cond.static yL_extend ∈ GW := gw_at 1087 (by decide +kernel) rfl
theorem kl_L_272 : Cond.methodLink RL 272 yL_endDays ∈ GW := gw_at 1095 (by decide +kernel) rfl
theorem kt_L_272 : Cond.static yL_endDays ∈ GW := gw_at 1096 (by decide +kernel) rfl
theorem kl_L_279 : Cond.methodLink RL 279 yL_close ∈ GW := gw_at 1115 (by decide +kernel) rfl
theorem kt_L_279 : Cond.static yL_close ∈ GW := gw_at 1116 (by decide +kernel) rfl
theorem kl_L_283 : Cond.methodLink RL 283 yL_open ∈ GW := gw_at 1128 (by decide +kernel) rfl
theorem kt_L_283 : Cond.static yL_open ∈ GW := gw_at 1129 (by decide +kernel) rfl
theorem kl_L_286 : Cond.methodLink RL 286 yL_request ∈ GW := gw_at 1136 (by decide +kernel) rfl
theorem kt_L_286 : Cond.static yL_request ∈ GW := gw_at 1137 (by decide +kernel) rfl
theorem kl_L_289 : Cond.methodLink RL 289 yL_requestState ∈ GW := gw_at 1148 (by decide +kernel) rfl
theorem kt_L_289 : Cond.static yL_requestState ∈ GW := gw_at 1149 (by decide +kernel) rfl
theorem kl_L_292 : Cond.methodLink RL 292 yL_bookingOf ∈ GW := gw_at 1160 (by decide +kernel) rfl
theorem kt_L_292 : Cond.static yL_bookingOf ∈ GW := gw_at 1161 (by decide +kernel) rfl
theorem kl_L_295 : Cond.methodLink RL 295 yL_withdraw ∈ GW := gw_at 1167 (by decide +kernel) rfl
theorem kt_L_295 : Cond.static yL_withdraw ∈ GW := gw_at 1168 (by decide +kernel) rfl
theorem kl_L_299 : Cond.methodLink RL 299 yL_fill ∈ GW := gw_at 1174 (by decide +kernel) rfl
theorem kt_L_299 : Cond.static yL_fill ∈ GW := gw_at 1175 (by decide +kernel) rfl
theorem kl_L_302 : Cond.methodLink RL 302 yL_planSite ∈ GW := gw_at 1194 (by decide +kernel) rfl
theorem kt_L_302 : Cond.static yL_planSite ∈ GW := gw_at 1195 (by decide +kernel) rfl
theorem kl_L_305 : Cond.methodLink RL 305 yL_gapNights ∈ GW := gw_at 1224 (by decide +kernel) rfl
theorem kt_L_305 : Cond.static yL_gapNights ∈ GW := gw_at 1225 (by decide +kernel) rfl
theorem kl_L_308 : Cond.methodLink RL 308 yL_orphanNights ∈ GW := gw_at 1231 (by decide +kernel) rfl
theorem kt_L_308 : Cond.static yL_orphanNights ∈ GW := gw_at 1232 (by decide +kernel) rfl
theorem kl_L_311 : Cond.methodLink RL 311 yL_occupancyNumerator ∈ GW := gw_at 1238 (by decide +kernel) rfl
theorem kt_L_311 : Cond.static yL_occupancyNumerator ∈ GW := gw_at 1239 (by decide +kernel) rfl
theorem kl_L_314 : Cond.methodLink RL 314 yL_occupancyDenominator ∈ GW := gw_at 1260 (by decide +kernel) rfl
theorem kt_L_314 : Cond.static yL_occupancyDenominator ∈ GW := gw_at 1261 (by decide +kernel) rfl
theorem kl_L_317 : Cond.methodLink RL 317 yL_expected ∈ GW := gw_at 1267 (by decide +kernel) rfl
theorem kt_L_317 : Cond.static yL_expected ∈ GW := gw_at 1268 (by decide +kernel) rfl
theorem kl_L_321 : Cond.methodLink RL 321 yL_dearestBooking ∈ GW := gw_at 1282 (by decide +kernel) rfl
theorem kt_L_321 : Cond.static yL_dearestBooking ∈ GW := gw_at 1283 (by decide +kernel) rfl
theorem kl_L_324 : Cond.methodLink RL 324 yL_busiestNight ∈ GW := gw_at 1293 (by decide +kernel) rfl
theorem kt_L_324 : Cond.static yL_busiestNight ∈ GW := gw_at 1294 (by decide +kernel) rfl
theorem kl_L_331 : Cond.methodLink RL 331 yL_appendText ∈ GW := gw_at 1300 (by decide +kernel) rfl
theorem kt_L_331 : Cond.static yL_appendText ∈ GW := gw_at 1301 (by decide +kernel) rfl
theorem kl_L_334 : Cond.methodLink RL 334 yL_truncateText ∈ GW := gw_at 1308 (by decide +kernel) rfl
theorem kt_L_334 : Cond.static yL_truncateText ∈ GW := gw_at 1309 (by decide +kernel) rfl
theorem kl_L_349 : Cond.methodLink RL 349 yL_save ∈ GW := gw_at 1315 (by decide +kernel) rfl
theorem kt_L_349 : Cond.static yL_save ∈ GW := gw_at 1316 (by decide +kernel) rfl
theorem kl_L_352 : Cond.methodLink RL 352 yL_restore ∈ GW := gw_at 1322 (by decide +kernel) rfl
theorem kt_L_352 : Cond.static yL_restore ∈ GW := gw_at 1323 (by decide +kernel) rfl
/-- behind a case -/
def LK (b L : Nat) (xs : Nat → Int32) (i ce sl : Nat) : Prop := ∀ (G : AG) (M : Nat → Nat → Int32) (n ce1 sl1 : Nat), Rel G M M n → 72 ≤ n → ce1 ≤ ce + 100 → sl1 ≤ sl + 2000 → AW TL QL (CL b L xs) 3404 (LO i none none) [] (wld G M) n ce1 sl1
theorem rel_rs {G : AG} {M M2 : Nat → Nat → Int32} {n : Nat} (h : Rel G M M n) (hr : RS M M2) : Rel G M2 M2 n := rel_cg h rfl (fun i a c => hr.1 i (by omega) (by omega) (by omega)) (fun i hi => hr.1 i (by omega) (by omega) (by omega)) hr.2
section Lg2
variable {b L : Nat} {xs : Nat → Int32} {pc : Nat} {lo : List (Option Value)} {st : List Value} {h : Nat → AE} {n ce sl : Nat}
theorem lw_bool {x : Int32} {o2 : Int} (h1 : Nat.ble pc 4000 = true) (ht : (pc : Int) + 4 + o2 = ((pc + 8 : Nat) : Int)) (d0 : decode code pc = .ok (.ifCond .eq 7, 3)) (d3 : decode code (pc + 3) = .ok (.iconst 1, 1)) (d4 : decode code (pc + 3 + 1) = .ok (.goto o2, 3)) (d7 : decode code (pc + 7) = .ok (.iconst 0, 1)) (kk : AW TL QL (CL b L xs) (pc + 8) lo (.int (if x = 0 then 0 else 1) :: st) h n ce sl) : AW TL QL (CL b L xs) pc lo (.int x :: st) h n ce sl := by
  refine aw_if_eq (T := TL) (pc + 7) d0 (by omega) (fun q => ?_) (fun q => ?_)
  · rw [if_pos q] at kk
    exact aw_iconst (T := TL) d7 rfl kk
  · rw [if_neg q] at kk
    refine aw_iconst (T := TL) d3 rfl ?_
    exact aw_goto (T := TL) (pc + 8) d4 (by omega) kk
variable {G : AG} {M M1 : Nat → Nat → Int32} {i cr index index2 na : Nat} {v1 v2 : Int32} {Tc Tr : ATy} {y y2 : MethodName}
theorem lw_dir (hn : 72 ≤ n) (hce : ce ≤ 400000) (hsl : sl ≤ 6000000) (g0 : Tc.2.2.2.2.1.cells = 0) (g1 : Tc.2.2.2.2.1.slots = 0) (g2 : Tr.2.2.2.2.1.cells = 0) (g3 : Tr.2.2.2.2.1.slots = 0) (hL : KV RL index y) (hK : KO y Tc.2.1 Tc.2.2.1 Tc.2.2.2.1 0) (hM : AMet Tc y [Cond.code y Tc.2.1 Tc.2.2.1 Tc.2.2.2.1] [.ref 0] (wld G M) n (PD (.inl (some (.int v1))) (wld G M) n)) (hL2 : KV RL index2 y2) (hK2 : KO y2 Tr.2.1 Tr.2.2.1 Tr.2.2.2.1 0) (hM2 : AMet Tr y2 [Cond.code y2 Tr.2.1 Tr.2.2.1 Tr.2.2.2.1] [.ref 63] (wld G M) n (PR cr v2 G M M n)) (hy : RX9 = y.cls) (hy2 : RX10 = y2.cls) (f1 : Nat.ble (Tc.2.2.2.2.1.frames + 1) 12 = true) (f2 : Nat.ble (8 + (Tc.2.2.1 + 11) + Tc.2.2.2.2.1.locals) 442 = true) (f3 : Nat.ble (Tr.2.2.2.2.1.frames + 1) 12 = true) (f4 : Nat.ble (8 + (Tr.2.2.1 + 11) + Tr.2.2.2.2.1.locals) 442 = true) (hc : cr = 0) (he : v2 = v1) {o : Int} (ht : (pc : Int) + 8 + o = 3404)
    (d0 : decode code pc = .ok (.aload_n 1, 1)) (d1 : decode code (pc + 1) = .ok (.invokevirtual index, 3)) (d2 : decode code (pc + 1 + 3) = .ok (.aload_n 2, 1)) (d3 : decode code (pc + 1 + 3 + 1) = .ok (.invokevirtual index2, 3)) (d4 : decode code (pc + 1 + 3 + 1 + 3) = .ok (.if_icmp .eq o, 3))
    (kk : ∀ M2, RS M M2 → AW TL QL (CL b L xs) 3404 (LO i none none) [] (wld G M2) n ce sl) : AW TL QL (CL b L xs) pc (LO i none none) [] (wld G M) n ce sl := by
  refine aw_aload_n (T := TL) d0 rfl ?_
  refine ap_callVi (T := TL) (na := 0) hL hK hM d1 e_0 (Nat.lt_of_lt_of_le (by decide) hn) rfl hy rfl rfl (Nat.zero_le _) ⟨Nat.le_of_ble_eq_true f1, Nat.le_of_ble_eq_true f2, ?_, ?_⟩ ?_
  · rw [g0]; show ce + 0 ≤ 601024; omega
  · rw [g1]; show sl + 0 ≤ 7293034; omega
  rw [g0, g1]
  refine aw_aload_n (T := TL) d2 rfl ?_
  refine ap_callR (T := TL) (na := 0) hL2 hK2 hM2 d3 e_63 (l_63 hn) rfl hy2 rfl rfl (show 1 + 0 ≤ 8 by decide) ⟨Nat.le_of_ble_eq_true f3, Nat.le_of_ble_eq_true f4, ?_, ?_⟩ ?_
  · rw [g2]; show ce + 0 + 0 ≤ 601024; omega
  · rw [g3]; show sl + 0 + 0 ≤ 7293034; omega
  intro M2 hr _
  rw [g2, g3]
  rw [if_pos hc] at hr ⊢
  exact aw_icmp_eq (T := TL) 3404 d4 (by omega) (fun _ => kk M2 hr) (fun q => absurd he.symm q)
end Lg2
section Lg3
variable {A B : Nat → Nat → Int32} {nc ns nz nb nr t : Nat}
theorem b_dep (hi : Inv A nc ns nb nr t) : ∀ k, k < nb → ∃ d : Nat, d ≤ 999 ∧ A 18 k = nI d := fun k hk => by
  obtain ⟨c, a, d, -, -, -, h4, -, h6, -⟩ := hi.2.1 k hk
  exact ⟨d, h6, h4⟩
theorem b_cl (hi : Inv A nc ns nb nr t) : ∀ k, k < nb → ∃ kc, kc < nc ∧ A 16 k = nI kc := fun k hk => by
  obtain ⟨c, a, d, h1, h2, -⟩ := hi.2.1 k hk
  exact ⟨c, h2, h1⟩
theorem b_depV (h : Same A B nc ns nz nb nr t) (hi : Inv A nc ns nb nr t) : ∀ k, k < nb → ∃ j, j ≤ 1100 ∧ V B 18 k = nI j := fun k hk => by
  obtain ⟨d, h1, h2⟩ := b_dep hi k hk
  exact ⟨d, by omega, (h.2.2.2.2.2.1.2.2.1 k hk).symm.trans h2⟩
theorem b_clV (h : Same A B nc ns nz nb nr t) (hi : Inv A nc ns nb nr t) : ∀ k, k < nb → ∃ j, j < 4 ∧ V B 16 k = nI j := fun k hk => by
  obtain ⟨d, h1, h2⟩ := b_cl hi k hk
  exact ⟨d, Nat.lt_of_lt_of_le h1 h.1.2.1, (h.2.2.2.2.2.1.1 k hk).symm.trans h2⟩
theorem kq_ap {M : Nat → Nat → Int32} {k i : Nat} {f : Int32} (h : 63 ≤ i) : apM M k f i = M i := by
  unfold apM; rw [updM_n (by omega), updM_n (by omega)]
theorem kr_at {M : Nat → Nat → Int32} {k i : Nat} {f : Int32} (h : i < 63 ∨ 72 ≤ i) : atM M k f i = M i := by
  unfold atM txM; rw [updM_n (by omega), updM_n (by omega)]
theorem c_sv (x : Int32) : cd_save x = cr_save x := by
  unfold cd_save cr_save
  by_cases h : x < 0 ∨ 1 < x
  · rw [if_pos h, if_pos]; rintro ⟨a, c⟩; rcases h with h | h <;> grind
  · rw [if_neg h, if_neg]; grind
theorem sv_lt {x : Int32} (h : cd_save x = 0) : x.toNatClampNeg < 2 := by
  unfold cd_save at h
  by_cases q : x < 0 ∨ 1 < x
  · rw [if_pos q] at h; cases h
  · have h1 : x = 0 ∨ x = 1 := by grind
    rcases h1 with rfl | rfl <;> decide
theorem kq_rs {G : AG} {M : Nat → Nat → Int32} {k i : Nat} (h : 63 ≤ i ∧ i < 72) : rsC G M k i = M i := by
  unfold rsC
  split
  · exact kcp_1_72 i (by omega)
  · exact kcp_1_99 i (by omega)
theorem fin_restore {G G2 : AG} {M M' M2 : Nat → Nat → Int32} {n : Nat} {x : Int32} (h : Rel G M M n) (hB : Rel G M M' n) (hc : cd_restore G x = cr_restore M' x) (h0 : cd_restore G x = 0 → SEq M' (rsC G M x.toNatClampNeg)) (h1 : ¬ cd_restore G x = 0 → SEq M' M) (hr : RS (if cr_restore M' x = 0 then rsM1 M' x.toNatClampNeg else M') M2) : Rel G M2 M2 n := by
  by_cases q : cd_restore G x = 0
  · rw [if_pos (hc.symm.trans q)] at hr
    have q2 := q
    unfold cd_restore at q2
    by_cases q3 : x < 0 ∨ 1 < x
    · rw [if_pos q3] at q2; cases q2
    · rw [if_neg q3] at q2
      by_cases q4 : G.1 x.toNatClampNeg = none
      · rw [if_pos q4] at q2; cases q2
      · obtain ⟨b, hb⟩ := Option.ne_none_iff_exists'.mp q4
        have h2 : x.toNatClampNeg < 2 := sv_lt (by unfold cd_save; exact if_neg q3)
        exact r_restore h h2 hb (h0 q) rfl hr
  · rw [if_neg (fun e => q (hc.trans e))] at hr
    exact rel_cg hB rfl (fun i a c => (hr.1 i (by omega) (by omega) (by omega)).trans (h1 q i a)) (fun i hi => hr.1 i (by omega) (by omega) (by omega)) hr.2
end Lg3
