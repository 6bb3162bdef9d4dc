abbrev tJ3_checkIndex_8e157 : ATy := (RJ3, cJ3_checkIndex_8e157, 3, (some .int), { frames := 0, cells := 0, slots := 0, locals := 0 }, false)
abbrev tJ0_checkIndex_df160 : ATy := (RJ0, cJ0_checkIndex_df160, 2, none, { frames := 1, cells := 0, slots := 0, locals := 22 }, false)
abbrev tJ1_charAt_3b067 : ATy := (RJ1, cJ1_charAt_3b067, 2, (some .char), { frames := 2, cells := 0, slots := 0, locals := 43 }, false)
abbrev tJ0_isLatin1_aae02 : ATy := (RJ0, cJ0_isLatin1_aae02, 1, (some .boolean), { frames := 0, cells := 0, slots := 0, locals := 0 }, false)
abbrev tJ0_coder_7d493 : ATy := (RJ0, cJ0_coder_7d493, 1, (some .byte), { frames := 0, cells := 0, slots := 0, locals := 0 }, false)
abbrev tJ0_length_8abf5 : ATy := (RJ0, cJ0_length_8abf5, 1, (some .int), { frames := 1, cells := 0, slots := 0, locals := 20 }, false)
abbrev tJ0_charAt_5068e : ATy := (RJ0, cJ0_charAt_5068e, 2, (some .char), { frames := 3, cells := 0, slots := 0, locals := 64 }, false)
theorem ko_J3_checkIndex_8e157 : KO yJ3_checkIndex_8e157 cJ3_checkIndex_8e157 3 (some .int) 3 := ⟨gw_at 546 (by decide +kernel) rfl, gw_at 149 (by decide +kernel) rfl, by decide +kernel⟩
theorem kv_X6_132 : KV RX6 132 yJ0_length_8abf5 := ⟨Or.inl (gw_at 518 (by decide +kernel) rfl), gw_at 519 (by decide +kernel) rfl, gw_at 520 (by decide +kernel) rfl⟩
theorem kv_X6_137 : KV RX6 137 yJ0_charAt_5068e := ⟨Or.inl (gw_at 528 (by decide +kernel) rfl), gw_at 529 (by decide +kernel) rfl, gw_at 530 (by decide +kernel) rfl⟩
theorem kv_X10_248 : KV RX10 248 yJ0_length_8abf5 := ⟨Or.inl (gw_at 1826 (by decide +kernel) rfl), gw_at 519 (by decide +kernel) rfl, gw_at 520 (by decide +kernel) rfl⟩
theorem kv_X10_254 : KV RX10 254 yJ0_charAt_5068e := ⟨Or.inl (gw_at 1827 (by decide +kernel) rfl), gw_at 529 (by decide +kernel) rfl, gw_at 530 (by decide +kernel) rfl⟩
theorem kv_J0_335 : KV RJ0 335 yJ0_coder_7d493 := ⟨Or.inl (gw_at 522 (by decide +kernel) rfl), gw_at 523 (by decide +kernel) rfl, gw_at 524 (by decide +kernel) rfl⟩
theorem kv_J0_492 : KV RJ0 492 yJ0_isLatin1_aae02 := ⟨Or.inl (gw_at 532 (by decide +kernel) rfl), gw_at 533 (by decide +kernel) rfl, gw_at 534 (by decide +kernel) rfl⟩
theorem ks_J0_495 : KS RJ0 495 yJ1_charAt_3b067 := ⟨Or.inl (gw_at 536 (by decide +kernel) rfl), gw_at 537 (by decide +kernel) rfl⟩
theorem ks_J1_9 : KS RJ1 9 yJ0_checkIndex_df160 := ⟨Or.inl (gw_at 539 (by decide +kernel) rfl), gw_at 540 (by decide +kernel) rfl⟩
theorem ks_J0_1059 : KS RJ0 1059 yJ3_checkIndex_8e157 := ⟨Or.inl (gw_at 544 (by decide +kernel) rfl), gw_at 545 (by decide +kernel) rfl⟩
def wLen (k : Nat) : Nat := [5, 4, 6, 3].getD k 0
def wB (k a : Nat) : Int32 := (SBY.getD k []).getD a 0
section Srows
variable {T Tc : ATy} {Q : AQ} {CX : AC} {pc : Nat} {lo : List (Option Value)} {st : List Value} {h : Nat → AE} {n ce sl : Nat} {index k : Nat}
theorem aw_ldcS {tx : String} (hw : (T.1, index, tx, k) ∈ STW) (hd : decode T.2.1 pc = .ok (.ldc index, 2)) (kk : AW T Q CX (pc + 2) lo (.ref (900000 + k) :: st) h n ce sl) : AW T Q CX pc lo st h n ce sl := by
  intro p l e1 s m args below meth c H locs ls ad kc D z A hF hC hD
  have hE := hF.2.2.2.2.2.2.2.2.2.1
  have had : ∀ j, ad (900000 + j) = z.1 (900000 + j) := fun j => hD.2.2.2.2.1 _ (Or.inr (Nat.le_trans hD.2.2.2.2.2.1.2 (Nat.le_add_right _ _)))
  have hZ : vk_R T.1 index tx (ad (900000 + k)) s := by rw [had]; exact hE.2.2.2.2.1 _ hw
  exact va_ldcS hF.1 hF.2.1 hF.2.2.2.1 hZ hd (kk p l e1 s m args below meth c H locs ls ad kc D z A hF hC hD)
theorem aw_ldcSW {tx : String} (hw : (T.1, index, tx, k) ∈ STW) (hd : decode T.2.1 pc = .ok (.ldc_w index, 3)) (kk : AW T Q CX (pc + 3) lo (.ref (900000 + k) :: st) h n ce sl) : AW T Q CX pc lo st h n ce sl := by
  intro p l e1 s m args below meth c H locs ls ad kc D z A hF hC hD
  have hE := hF.2.2.2.2.2.2.2.2.2.1
  have had : ∀ j, ad (900000 + j) = z.1 (900000 + j) := fun j => hD.2.2.2.2.1 _ (Or.inr (Nat.le_trans hD.2.2.2.2.2.1.2 (Nat.le_add_right _ _)))
  have hZ : vk_R T.1 index tx (ad (900000 + k)) s := by rw [had]; exact hE.2.2.2.2.1 _ hw
  intro T0 hT X
  obtain ⟨t, a1, b1⟩ := (kk p l e1 s m args below meth c H locs ls ad kc D z A hF hC hD) T0 hT X
  exact ⟨t, X.ldcStringW hF.1 (own := T.1) (text := tx) (index := index) (a := ad (900000 + k)) hF.2.2.2.1 hZ.1 hZ.2 (g := F0 m pc ls (st.map (cv ad))) rfl (by rw [hF.2.1]; exact hd) t a1, b1⟩
theorem aw_sgetC (hk : k < 4) (hw : Cond.fieldLink T.1 index "java/lang/String" "coder" "B" ∈ GW) (hd : decode T.2.1 pc = .ok (.getfield index, 3)) (kk : AW T Q CX (pc + 3) lo (.int 0 :: st) h n ce sl) : AW T Q CX pc lo (.ref (900000 + k) :: st) h n ce sl := by
  intro p l e1 s m args below meth c H locs ls ad kc D z A hF hC hD
  have hE := hF.2.2.2.2.2.2.2.2.2.1
  have had : ∀ j, ad (900000 + j) = z.1 (900000 + j) := fun j => hD.2.2.2.2.1 _ (Or.inr (Nat.le_trans hD.2.2.2.2.2.1.2 (Nat.le_add_right _ _)))
  have h1 := (hE.2.2.2.2.2.1.1 k hk).2.1
  dsimp only at h1
  rw [← had k] at h1
  exact vk_getf hF.1 hF.2.1 h1 hD.2.2.2.1 hF.2.2.2.1 (hF.2.2.2.2.1 _ hw) (fun _ h9 => h9) hd (kk p l e1 s m args below meth c H locs ls ad kc D z A hF hC hD)
theorem aw_sgetV (hk : k < 4) (hw : Cond.fieldLink T.1 index "java/lang/String" "value" "[B" ∈ GW) (hd : decode T.2.1 pc = .ok (.getfield index, 3)) (kk : AW T Q CX (pc + 3) lo (.ref (900000 + (10 + k)) :: st) h n ce sl) : AW T Q CX pc lo (.ref (900000 + k) :: st) h n ce sl := by
  intro p l e1 s m args below meth c H locs ls ad kc D z A hF hC hD
  have hE := hF.2.2.2.2.2.2.2.2.2.1
  have had : ∀ j, ad (900000 + j) = z.1 (900000 + j) := fun j => hD.2.2.2.2.1 _ (Or.inr (Nat.le_trans hD.2.2.2.2.2.1.2 (Nat.le_add_right _ _)))
  have h1 := (hE.2.2.2.2.2.1.1 k hk).2.2.1
  dsimp only at h1
  rw [← had k, ← had (10 + k)] at h1
  exact vk_getf hF.1 hF.2.1 h1 hD.2.2.2.1 hF.2.2.2.1 (hF.2.2.2.2.1 _ hw) (fun _ h9 => h9) hd (kk p l e1 s m args below meth c H locs ls ad kc D z A hF hC hD)
theorem aw_slen (hk : k < 4) (hd : decode T.2.1 pc = .ok (.arraylength, 1)) (kk : AW T Q CX (pc + 1) lo (.int (nI (wLen k)) :: st) h n ce sl) : AW T Q CX pc lo (.ref (900000 + (10 + k)) :: st) h n ce sl := by
  intro p l e1 s m args below meth c H locs ls ad kc D z A hF hC hD
  have hE := hF.2.2.2.2.2.2.2.2.2.1
  have had : ∀ j, ad (900000 + j) = z.1 (900000 + j) := fun j => hD.2.2.2.2.1 _ (Or.inr (Nat.le_trans hD.2.2.2.2.2.1.2 (Nat.le_add_right _ _)))
  have h1 := (hE.2.2.2.2.2.1.1 k hk).2.2.2
  dsimp only at h1
  rw [← had (10 + k)] at h1
  exact va_tlen hF.1 hF.2.1 h1 hD.2.2.2.1 rfl hd (kk p l e1 s m args below meth c H locs ls ad kc D z A hF hC hD)
theorem aw_sbald {i : Int32} {a : Nat} (hk : k < 4) (hi : i = nI a) (ha : a < wLen k) (hd : decode T.2.1 pc = .ok (.baload, 1)) (kk : AW T Q CX (pc + 1) lo (.int (wB k a) :: st) h n ce sl) : AW T Q CX pc lo (.int i :: .ref (900000 + (10 + k)) :: st) h n ce sl := by
  intro p l e1 s m args below meth c H locs ls ad kc D z A hF hC hD
  have hE := hF.2.2.2.2.2.2.2.2.2.1
  have had : ∀ j, ad (900000 + j) = z.1 (900000 + j) := fun j => hD.2.2.2.2.1 _ (Or.inr (Nat.le_trans hD.2.2.2.2.2.1.2 (Nat.le_add_right _ _)))
  have h1 := (hE.2.2.2.2.2.1.1 k hk).2.2.2
  dsimp only at h1
  rw [← had (10 + k)] at h1
  have ha9 : a < 2 ^ 31 := by
    have : wLen k ≤ 6 := by rcases (by omega : k = 0 ∨ k = 1 ∨ k = 2 ∨ k = 3) with q | q | q | q <;> subst q <;> decide
    omega
  have hL9 : wLen k < 2 ^ 31 := by rcases (by omega : k = 0 ∨ k = 1 ∨ k = 2 ∨ k = 3) with q | q | q | q <;> subst q <;> decide
  exact va_tb hF.1 hF.2.1 h1 hD.2.2.2.1 (in_of hi ha hL9) (by rw [cl_of hi ha9]; rfl) hd (kk p l e1 s m args below meth c H locs ls ad kc D z A hF hC hD)
theorem aw_gcomp (hw : Cond.fieldLink T.1 index "java/lang/String" "COMPACT_STRINGS" "Z" ∈ GW) (hd : decode T.2.1 pc = .ok (.getstatic index, 3)) (kk : AW T Q CX (pc + 3) lo (.int 1 :: st) h n ce sl) : AW T Q CX pc lo st h n ce sl := by
  intro p l e1 s m args below meth c H locs ls ad kc D z A hF hC hD
  have hE := hF.2.2.2.2.2.2.2.2.2.1
  have had : ∀ j, ad (900000 + j) = z.1 (900000 + j) := fun j => hD.2.2.2.2.1 _ (Or.inr (Nat.le_trans hD.2.2.2.2.2.1.2 (Nat.le_add_right _ _)))
  exact va_gets hF.1 hF.2.1 hE.2.2.2.2.2.2.1 hD.2.2.2.1 hF.2.2.2.1 (hF.2.2.2.2.1 _ hw) (fun _ h9 => h9) hd (kk p l e1 s m args below meth c H locs ls ad kc D z A hF hC hD)
theorem aw_gform (hw : Cond.fieldLink T.1 index "jdk/internal/util/Preconditions" "SIOOBE_FORMATTER" "Ljava/util/function/BiFunction;" ∈ GW) (hd : decode T.2.1 pc = .ok (.getstatic index, 3)) (k1 : AW T Q CX (pc + 3) lo (.null :: st) h n ce sl) (kk : AW T Q CX (pc + 3) lo (.ref (900000 + 20) :: st) h n ce sl) : AW T Q CX pc lo st h n ce sl := by
  intro p l e1 s m args below meth c H locs ls ad kc D z A hF hC hD
  have hE := hF.2.2.2.2.2.2.2.2.2.1
  have had : ∀ j, ad (900000 + j) = z.1 (900000 + j) := fun j => hD.2.2.2.2.1 _ (Or.inr (Nat.le_trans hD.2.2.2.2.2.1.2 (Nat.le_add_right _ _)))
  rcases hE.2.2.2.2.2.2.2.1 with h1 | h1
  · exact va_gets hF.1 hF.2.1 h1 hD.2.2.2.1 hF.2.2.2.1 (hF.2.2.2.2.1 _ hw) (fun _ h9 => h9) hd (k1 p l e1 s m args below meth c H locs ls ad kc D z A hF hC hD)
  · dsimp only at h1
    rw [← had 20] at h1
    exact va_gets hF.1 hF.2.1 h1 hD.2.2.2.1 hF.2.2.2.1 (hF.2.2.2.2.1 _ hw) (fun _ h9 => h9) hd (kk p l e1 s m args below meth c H locs ls ad kc D z A hF hC hD)
theorem aw_i2c {x : Int32} (hd : decode T.2.1 pc = .ok (.i2c, 1)) (kk : AW T Q CX (pc + 1) lo (.int (x.toUInt32 % 65536).toInt32 :: st) h n ce sl) : AW T Q CX pc lo (.int x :: st) h n ce sl := by
  intro p l e1 s m args below meth c H locs ls ad kc D z A hF hC hD
  have hE := hF.2.2.2.2.2.2.2.2.2.1
  have had : ∀ j, ad (900000 + j) = z.1 (900000 + j) := fun j => hD.2.2.2.2.1 _ (Or.inr (Nat.le_trans hD.2.2.2.2.2.1.2 (Nat.le_add_right _ _)))
  exact lv_i2c hF.1 hF.2.1 hd rfl (kk p l e1 s m args below meth c H locs ls ad kc D z A hF hC hD)
theorem aw_nret {Po : APost} {v : Int32} {ty : FieldType} (hr : T.2.2.2.1 = some ty) (hd : decode T.2.1 pc = .ok (.ireturn, 1)) (hn : narrow ty (.int v) = .int v) (hce : ce ≤ T.2.2.2.2.1.cells) (hsl : sl ≤ T.2.2.2.2.1.slots) (hp : Po (.inl (some (.int v))) h n) : AW T (AQm T Po) CX pc lo [.int v] h n ce sl := by
  intro p l e1 s m args below meth c H locs ls ad kc D z A hF hC hD
  refine W.widen hce hsl (vx_ret (W.zret hF.1 hF.2.1 (hF.2.2.2.2.2.2.1.trans hr) hn (fun t ht hW => ?_) hD.2.2.2.1.2.2 hd (hlocks := hF.2.2.2.2.2.1)))
  exact ⟨⟨some (.int v), h, n, ad, rfl, hp, dy_awd hD ht hW.alike⟩, hD.2.2.2.1.F ht⟩
/-- a call of a word's own method -/
theorem aw_callW {y : MethodName} {na : Nat} {sk as : List Value} {v : Option Value} (hL : KV T.1 index y) (hyc : y.cls = "java/lang/String") (hK : KO y Tc.2.1 Tc.2.2.1 Tc.2.2.2.1 na) (hM : AMet Tc y [Cond.code y Tc.2.1 Tc.2.2.1 Tc.2.2.2.1] (.ref (900000 + k) :: as) h n (PD (.inl v) h n)) (hd : decode T.2.1 pc = .ok (.invokevirtual index, 3)) (hk : k < 4) (hst : sk = as.reverse ++ .ref (900000 + k) :: st) (hna9 : as.length = na) (hw : (st.map fun v => v.category).sum ≤ 8) (hR : RmOk T Tc ce sl)
    (kk : AW T Q CX (pc + 3) lo (v.toList ++ st) h n (ce + Tc.2.2.2.2.1.cells) (sl + Tc.2.2.2.2.1.slots)) : AW T Q CX pc lo sk h n ce sl := by
  intro p l e1 s m args below meth c H locs ls ad kc D z A hF hC hD
  have hE := hF.2.2.2.2.2.2.2.2.2.1
  have had : ∀ j, ad (900000 + j) = z.1 (900000 + j) := fun j => hD.2.2.2.2.1 _ (Or.inr (Nat.le_trans hD.2.2.2.2.2.1.2 (Nat.le_add_right _ _)))
  have hM1 := met_of_vx (hM l hF.2.2.2.2.2.2.2.1 ad kc D H.size) (fun E s t hx => by obtain ⟨⟨h', n', ad', hp, -⟩, -⟩ := hx; exact pd_nx _ _ _ hp)
  have hrec := vk_recv hE.2.2.2.2.2.1 hk hD.2.2.2.1
  rw [← had k, ← hyc] at hrec
  subst hst
  refine aw_run (a := (Value.ref (ad (900000 + k)) :: as.map (cv ad)).toArray) (mc := Tc.2.2.2.2.1.cells) (ms := Tc.2.2.2.2.1.slots) hF hC hD ?_ pd_na (fun E h' H1 locs1 q cl hp => absurd hp (pd_nx _ _ _)) (fun v' h' q => by
    obtain ⟨q1, q2, -⟩ := q
    cases q1; subst q2; exact kk)
  refine run_of_va ?_
  obtain ⟨hL | ⟨host, hL⟩, hins, hsel⟩ := hL
  · exact va_runV (bytes := Tc.2.1) (maxL := Tc.2.2.1) (ret := Tc.2.2.2.1) (n := na) (C := y.cls) (b := ad (900000 + k)) (As := as.map (cv ad)) (own := T.1) (Ts := GW) (nL := T.2.2.1) ⟨hF.1, hF.2.1, hF.2.2.1, hF.2.2.2.1, hF.2.2.2.2.1⟩ hM1
      ⟨callB_of (ws' := []) na hF.2.2.2.2.1 (ko_good hK) rfl rfl rfl (hF.2.2.2.2.1 _ hK.2.1) (hF.2.2.2.2.1 _ hL) hK.2.2 ⟨hR.1, hR.2.1⟩, hF.2.2.2.2.1 _ hins, hF.2.2.2.2.1 _ hsel⟩
      ⟨apc_blind, hrec, apc_at (av := .ref (900000 + k) :: as) hF hD⟩ rfl (by rw [List.length_map]; exact hna9) hD.2.2.2.2.2.2.1 (by simp [List.map_append, List.map_reverse, cv]) (lv_room (by rw [sum_cat]; exact hw)) hd ⟨hR.2.2.1, hR.2.2.2⟩
  · exact va_runVN (bytes := Tc.2.1) (maxL := Tc.2.2.1) (ret := Tc.2.2.2.1) (n := na) (C := y.cls) (b := ad (900000 + k)) (As := as.map (cv ad)) (own := T.1) (Ts := GW) (nL := T.2.2.1) ⟨hF.1, hF.2.1, hF.2.2.1, hF.2.2.2.1, hF.2.2.2.2.1⟩ hM1
      ⟨va_cnB (ws' := []) na hF.2.2.2.2.1 (ko_good hK) rfl rfl rfl (va_Nw.of rfl (hF.2.2.2.2.1 _ hL)) (hF.2.2.2.2.1 _ hK.2.1) hK.2.2 ⟨hR.1, hR.2.1⟩, hF.2.2.2.2.1 _ hins, hF.2.2.2.2.1 _ hsel⟩
      ⟨apc_blind, hrec, apc_at (av := .ref (900000 + k) :: as) hF hD⟩ rfl (by rw [List.length_map]; exact hna9) hD.2.2.2.2.2.2.1 (by simp [List.map_append, List.map_reverse, cv]) (lv_room (by rw [sum_cat]; exact hw)) hd ⟨hR.2.2.1, hR.2.2.2⟩
end Srows
theorem wB_byte {k a : Nat} (hk : k < 4) (ha : a < wLen k) : (((wB k a) &&& 255).toUInt32 % 65536).toInt32 = wB k a ∧ narrow .char (.int (wB k a)) = .int (wB k a) := by
  have h : ∀ k : Fin 4, ∀ a : Fin 6, a < wLen k → (((wB k a) &&& 255).toUInt32 % 65536).toInt32 = wB k a ∧ narrow .char (.int (wB k a)) = .int (wB k a) := by decide
  have : wLen k ≤ 6 := by rcases (by omega : k = 0 ∨ k = 1 ∨ k = 2 ∨ k = 3) with q | q | q | q <;> subst q <;> decide
  exact h ⟨k, hk⟩ ⟨a, by omega⟩ ha
theorem wL9 {k : Nat} (hk : k < 4) : wLen k < 100 := by rcases (by omega : k = 0 ∨ k = 1 ∨ k = 2 ∨ k = 3) with q | q | q | q <;> subst q <;> decide
set_option maxRecDepth 100000 in
set_option maxHeartbeats 4000000 in
theorem c_J3_checkIndex_8e157 {h : Nat → AE} {n : Nat} {i l : Int32} {f a b : Nat} (hi : i = nI a) (hl : l = nI b) (hab : a < b) (hb : b < 2 ^ 31) : AMet tJ3_checkIndex_8e157 yJ3_checkIndex_8e157 [Cond.code yJ3_checkIndex_8e157 cJ3_checkIndex_8e157 3 (some .int)] [.int i, .int l, .ref f] h n (PD (.inl (some (.int i))) h n) := by
  refine am_of (lo := [_, _, _]) (by decide) rfl (fun q => by cases q) rfl rfl rfl ?_
  refine aw_iload_n dJ3_checkIndex_8e157_0 rfl ?_
  refine aw_if_lt 9 dJ3_checkIndex_8e157_1 (by decide) (fun q => absurd q (by rw [hi]; exact nI_pos (by omega))) (fun _ => ?_)
  refine aw_iload_n dJ3_checkIndex_8e157_4 rfl ?_
  refine aw_iload_n dJ3_checkIndex_8e157_5 rfl ?_
  refine aw_icmp_lt 16 dJ3_checkIndex_8e157_6 (by decide) (fun _ => ?_) (fun q => absurd (by rw [hi, hl]; exact nI_lt hab (by omega)) q)
  refine aw_iload_n dJ3_checkIndex_8e157_16 rfl ?_
  refine aw_iret rfl dJ3_checkIndex_8e157_17 (ble' rfl) (ble' rfl) ?_
  exact pd_i rfl

set_option maxRecDepth 100000 in
set_option maxHeartbeats 4000000 in
theorem c_J3_checkIndex_8e157n {h : Nat → AE} {n : Nat} {i l : Int32} {a b : Nat} (hi : i = nI a) (hl : l = nI b) (hab : a < b) (hb : b < 2 ^ 31) : AMet tJ3_checkIndex_8e157 yJ3_checkIndex_8e157 [Cond.code yJ3_checkIndex_8e157 cJ3_checkIndex_8e157 3 (some .int)] [.int i, .int l, .null] h n (PD (.inl (some (.int i))) h n) := by
  refine am_of (lo := [_, _, _]) (by decide) rfl (fun q => by cases q) rfl rfl rfl ?_
  refine aw_iload_n dJ3_checkIndex_8e157_0 rfl ?_
  refine aw_if_lt 9 dJ3_checkIndex_8e157_1 (by decide) (fun q => absurd q (by rw [hi]; exact nI_pos (by omega))) (fun _ => ?_)
  refine aw_iload_n dJ3_checkIndex_8e157_4 rfl ?_
  refine aw_iload_n dJ3_checkIndex_8e157_5 rfl ?_
  refine aw_icmp_lt 16 dJ3_checkIndex_8e157_6 (by decide) (fun _ => ?_) (fun q => absurd (by rw [hi, hl]; exact nI_lt hab (by omega)) q)
  refine aw_iload_n dJ3_checkIndex_8e157_16 rfl ?_
  refine aw_iret rfl dJ3_checkIndex_8e157_17 (ble' rfl) (ble' rfl) ?_
  exact pd_i rfl

set_option maxRecDepth 100000 in
set_option maxHeartbeats 4000000 in
theorem c_J0_checkIndex_df160 {h : Nat → AE} {n : Nat} {i l : Int32} {a b : Nat} (hi : i = nI a) (hl : l = nI b) (hab : a < b) (hb : b < 2 ^ 31) : AMet tJ0_checkIndex_df160 yJ0_checkIndex_df160 [Cond.code yJ0_checkIndex_df160 cJ0_checkIndex_df160 2 none] [.int i, .int l] h n (PD (.inl none) h n) := by
  refine am_of (lo := [_, _]) (by decide) rfl (fun q => by cases q) rfl rfl rfl ?_
  refine aw_iload_n dJ0_checkIndex_df160_0 rfl ?_
  refine aw_iload_n dJ0_checkIndex_df160_1 rfl ?_
  refine aw_gform (gw_at 542 (by decide +kernel) rfl) dJ0_checkIndex_df160_2 ?_ ?_
  · refine ap_callSi ks_J0_1059 ko_J3_checkIndex_8e157 (c_J3_checkIndex_8e157n hi hl hab hb) dJ0_checkIndex_df160_5 rfl rfl (ble' rfl) (by decide) ?_
    refine aw_pop dJ0_checkIndex_df160_8 rfl ?_
    refine aw_vret rfl dJ0_checkIndex_df160_9 (ble' rfl) (ble' rfl) ?_
    exact pd_v rfl
  · refine ap_callSi ks_J0_1059 ko_J3_checkIndex_8e157 (c_J3_checkIndex_8e157 hi hl hab hb) dJ0_checkIndex_df160_5 rfl rfl (ble' rfl) (by decide) ?_
    refine aw_pop dJ0_checkIndex_df160_8 rfl ?_
    refine aw_vret rfl dJ0_checkIndex_df160_9 (ble' rfl) (ble' rfl) ?_
    exact pd_v rfl

set_option maxRecDepth 100000 in
set_option maxHeartbeats 4000000 in
theorem c_J1_charAt_3b067 {h : Nat → AE} {n : Nat} {i : Int32} {k a : Nat} (hk : k < 4) (hi : i = nI a) (ha : a < wLen k) : AMet tJ1_charAt_3b067 yJ1_charAt_3b067 [Cond.code yJ1_charAt_3b067 cJ1_charAt_3b067 2 (some .char)] [.ref (900000 + (10 + k)), .int i] h n (PD (.inl (some (.int (wB k a)))) h n) := by
  refine am_of (lo := [_, _]) (by decide) rfl (fun q => by cases q) rfl rfl rfl ?_
  refine aw_iload_n dJ1_charAt_3b067_0 rfl ?_
  refine aw_aload_n dJ1_charAt_3b067_1 rfl ?_
  refine aw_slen hk dJ1_charAt_3b067_2 ?_
  refine ap_callSv ks_J1_9 ko_J0_checkIndex_df160 (c_J0_checkIndex_df160 hi rfl ha (by have := wL9 hk; omega)) dJ1_charAt_3b067_3 rfl rfl (ble' rfl) (by decide) ?_
  refine aw_aload_n dJ1_charAt_3b067_6 rfl ?_
  refine aw_iload_n dJ1_charAt_3b067_7 rfl ?_
  refine aw_sbald hk hi ha dJ1_charAt_3b067_8 ?_
  refine aw_sipush (v := 255) dJ1_charAt_3b067_9 (by decide) ?_
  refine aw_iand dJ1_charAt_3b067_12 ?_
  refine aw_i2c dJ1_charAt_3b067_13 ?_
  rw [(wB_byte hk ha).1]
  refine aw_nret rfl dJ1_charAt_3b067_14 (wB_byte hk ha).2 (ble' rfl) (ble' rfl) ?_
  exact pd_i rfl

set_option maxRecDepth 100000 in
set_option maxHeartbeats 4000000 in
theorem c_J0_isLatin1_aae02 {h : Nat → AE} {n : Nat} {k : Nat} (hk : k < 4) : AMet tJ0_isLatin1_aae02 yJ0_isLatin1_aae02 [Cond.code yJ0_isLatin1_aae02 cJ0_isLatin1_aae02 1 (some .boolean)] [.ref (900000 + k)] h n (PD (.inl (some (.int 1))) h n) := by
  refine am_of (lo := [_]) (by decide) rfl (fun q => by cases q) rfl rfl rfl ?_
  refine aw_gcomp (gw_at 526 (by decide +kernel) rfl) dJ0_isLatin1_aae02_0 ?_
  refine aw_if_eq 17 dJ0_isLatin1_aae02_3 (by decide) (fun q => absurd q (by decide)) (fun _ => ?_)
  refine aw_aload_n dJ0_isLatin1_aae02_6 rfl ?_
  refine aw_sgetC hk (gw_at 1874 (by decide +kernel) rfl) dJ0_isLatin1_aae02_7 ?_
  refine aw_if_ne 17 dJ0_isLatin1_aae02_10 (by decide) (fun q => absurd rfl q) (fun _ => ?_)
  refine aw_iconst (v := 1) dJ0_isLatin1_aae02_13 (by decide) ?_
  refine aw_goto 18 dJ0_isLatin1_aae02_14 (by decide) ?_
  refine aw_zret rfl dJ0_isLatin1_aae02_18 rfl (ble' rfl) (ble' rfl) ?_
  exact pd_i rfl

set_option maxRecDepth 100000 in
set_option maxHeartbeats 4000000 in
theorem c_J0_coder_7d493 {h : Nat → AE} {n : Nat} {k : Nat} (hk : k < 4) : AMet tJ0_coder_7d493 yJ0_coder_7d493 [Cond.code yJ0_coder_7d493 cJ0_coder_7d493 1 (some .byte)] [.ref (900000 + k)] h n (PD (.inl (some (.int 0))) h n) := by
  refine am_of (lo := [_]) (by decide) rfl (fun q => by cases q) rfl rfl rfl ?_
  refine aw_gcomp (gw_at 526 (by decide +kernel) rfl) dJ0_coder_7d493_0 ?_
  refine aw_if_eq 13 dJ0_coder_7d493_3 (by decide) (fun q => absurd q (by decide)) (fun _ => ?_)
  refine aw_aload_n dJ0_coder_7d493_6 rfl ?_
  refine aw_sgetC hk (gw_at 1874 (by decide +kernel) rfl) dJ0_coder_7d493_7 ?_
  refine aw_goto 14 dJ0_coder_7d493_10 (by decide) ?_
  refine aw_nret rfl dJ0_coder_7d493_14 rfl (ble' rfl) (ble' rfl) ?_
  exact pd_i rfl

set_option maxRecDepth 100000 in
set_option maxHeartbeats 4000000 in
theorem c_J0_length_8abf5 {h : Nat → AE} {n : Nat} {k : Nat} (hk : k < 4) : AMet tJ0_length_8abf5 yJ0_length_8abf5 [Cond.code yJ0_length_8abf5 cJ0_length_8abf5 1 (some .int)] [.ref (900000 + k)] h n (PD (.inl (some (.int (nI (wLen k))))) h n) := by
  refine am_of (lo := [_]) (by decide) rfl (fun q => by cases q) rfl rfl rfl ?_
  refine aw_aload_n dJ0_length_8abf5_0 rfl ?_
  refine aw_sgetV hk (gw_at 1873 (by decide +kernel) rfl) dJ0_length_8abf5_1 ?_
  refine aw_slen hk dJ0_length_8abf5_4 ?_
  refine aw_aload_n dJ0_length_8abf5_5 rfl ?_
  refine aw_callW kv_J0_335 rfl ko_J0_coder_7d493 (c_J0_coder_7d493 hk) dJ0_length_8abf5_6 hk rfl rfl (ble' rfl) (by decide) ?_
  refine aw_ishr dJ0_length_8abf5_9 ?_
  refine aw_iret rfl dJ0_length_8abf5_10 (ble' rfl) (ble' rfl) ?_
  exact pd_i (by rcases (by omega : k = 0 ∨ k = 1 ∨ k = 2 ∨ k = 3) with q | q | q | q <;> subst q <;> decide)

set_option maxRecDepth 100000 in
set_option maxHeartbeats 4000000 in
theorem c_J0_charAt_5068e {h : Nat → AE} {n : Nat} {i : Int32} {k a : Nat} (hk : k < 4) (hi : i = nI a) (ha : a < wLen k) : AMet tJ0_charAt_5068e yJ0_charAt_5068e [Cond.code yJ0_charAt_5068e cJ0_charAt_5068e 2 (some .char)] [.ref (900000 + k), .int i] h n (PD (.inl (some (.int (wB k a)))) h n) := by
  refine am_of (lo := [_, _]) (by decide) rfl (fun q => by cases q) rfl rfl rfl ?_
  refine aw_aload_n dJ0_charAt_5068e_0 rfl ?_
  refine aw_callW kv_J0_492 rfl ko_J0_isLatin1_aae02 (c_J0_isLatin1_aae02 hk) dJ0_charAt_5068e_1 hk rfl rfl (ble' rfl) (by decide) ?_
  refine aw_if_eq 16 dJ0_charAt_5068e_4 (by decide) (fun q => absurd q (by decide)) (fun _ => ?_)
  refine aw_aload_n dJ0_charAt_5068e_7 rfl ?_
  refine aw_sgetV hk (gw_at 1873 (by decide +kernel) rfl) dJ0_charAt_5068e_8 ?_
  refine aw_iload_n dJ0_charAt_5068e_11 rfl ?_
  refine ap_callSi ks_J0_495 ko_J1_charAt_3b067 (c_J1_charAt_3b067 hk hi ha) dJ0_charAt_5068e_12 rfl rfl (ble' rfl) (by decide) ?_
  refine aw_nret rfl dJ0_charAt_5068e_15 (wB_byte hk ha).2 (ble' rfl) (ble' rfl) ?_
  exact pd_i rfl
