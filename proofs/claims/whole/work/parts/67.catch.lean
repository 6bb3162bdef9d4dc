/-- the table of a method with handlers -/
def CH (hh : List (Nat × Nat × Nat × Nat)) : AC := fun c _ _ _ => c.exceptionTable.toList = tableOf hh
theorem amet_ofH {T : ATy} {lo : List (Option Value)} {h : Nat → AE} {n : Nat} {hh : List (Nat × Nat × Nat × Nat)} {y : MethodName} {av : List Value} {Po : APost} (hy : plainName y.cls = true) (hyn : y.cls = T.1) (hini : T.2.2.2.2.2 = true → y.name = "<init>") (hlen : av.length ≤ T.2.2.1) (hcat : ∀ v ∈ av, v.category = 1) (hlo : av.map some ++ List.replicate (T.2.2.1 - av.length) none = lo)
    (body : AW T (AQm T Po) (CH hh) 0 lo [] h n 0 0) : AMet T y [Cond.codeWith y T.2.1 T.2.2.1 T.2.2.2.1 hh] av h n Po := by
  intro l hl ad kc D sz
  refine vx_ofWH (cc := T.2.1) (maxL := T.2.2.1) (ret := T.2.2.2.1) (hh := hh) (ws' := []) hy rfl ?_
  intro p e s m args below meth c s₁ B hml hv
  have hX : c.exceptionTable.toList = tableOf hh := vx_table (x := y) B (atoms_spec (ws := [Cond.codeWith y T.2.1 T.2.2.1 T.2.2.2.1 hh]) B.pre _ List.mem_cons_self)
  obtain ⟨rfl, hsz, hn9, hK, hP, hD0, hE⟩ := hv
  subst hsz
  have hcat' : ∀ w ∈ av.map (cv ad), w.category = 1 := fun w hw => by
    obtain ⟨v, h1, rfl⟩ := List.mem_map.mp hw
    rw [cv_cat]; exact hcat v h1
  have hl0 := lv_entry (av.map (cv ad)) (n := T.2.2.1) (by rw [sl_len _ hcat', List.length_map]; exact hlen)
  rw [lg_entry_eq]
  refine body p l e s m _ below meth c s.heap [] _ ad kc D (ad, n) (va_A (cW ad kc h n) s.heap.size) ?_ hX ?_
  · have hown : s.vm.findClass y.cls = some m.cls := findClass_of_methodNamed B.named
    refine ⟨B.exec, B.bytes, hml, by rw [← hyn]; exact hown, fun w hw => pw_warm (List.mem_filter.mp hw).2 (State.WarmedH.refl s) (hE.1 w hw), B.notSynchronized, B.returns, hl, fun q hq => Or.inr hq, hE, fun hi => ?_⟩
    rw [(name_of_methodNamed B.named B.method).1]
    exact hini hi
  · refine ⟨hK, hP, hD0.self, va_S.rf, fun _ _ => rfl, ⟨Nat.le_refl _, hn9⟩, ⟨hl0.1, hl0.2.1, fun i v hi => ?_⟩⟩
    subst hlo
    have hi2 : av[i]? = some v := by
      rw [List.getElem?_append] at hi
      split at hi
      · rw [List.getElem?_map] at hi
        cases ha : av[i]? with
        | none => rw [ha] at hi; simp at hi
        | some w => rw [ha] at hi; simp at hi; rw [hi]
      · rw [List.getElem?_replicate] at hi
        split at hi <;> simp at hi
    have := args_mem (av.map (cv ad)) 0 i (cv ad v) hcat' (by rw [List.getElem?_map, hi2]; rfl)
    rw [Nat.zero_add] at this
    exact hl0.2.2 _ this
/-- the handler at tgt takes E, thrown at pc -/
def HX (own : String) (hh : List (Nat × Nat × Nat × Nat)) (pc : Nat) (E : String) (tgt : Nat) : Prop := ∃ (pre : List ExceptionTableEntry) (x : ExceptionTableEntry) (suf : List ExceptionTableEntry), tableOf hh = pre ++ x :: suf ∧ (∀ z ∈ pre, covers z pc = false ∨ (z.catchType ≠ 0 ∧ ∃ nm : String, Cond.classLink own z.catchType nm ∈ GW ∧ (E, nm) ∈ NCL)) ∧ covers x pc = true ∧ x.catchType ≠ 0 ∧ (∃ nm : String, Cond.classLink own x.catchType nm ∈ GW ∧ Cond.castable E nm ∈ GW) ∧ x.handlerPc = tgt
/-- what follows at a handler: the thrown one laid aside -/
def AH (T : ATy) (Q : AQ) (CX : AC) (tgt : Nat) (h : Nat → AE) (n ce sl : Nat) : Prop := (∃ k : Nat, decode T.2.1 tgt = .ok (.astore k, 2) ∧ k < T.2.2.1 ∧ AW T Q CX (tgt + 2) [] [] h n ce sl) ∨ (∃ k : Fin 4, decode T.2.1 tgt = .ok (.astore_n k, 1) ∧ (k : Nat) < T.2.2.1 ∧ AW T Q CX (tgt + 1) [] [] h n ce sl)
section Hrows
variable {T : ATy} {Q : AQ} {pc : Nat} {lo : List (Option Value)} {st : List Value} {h : Nat → AE} {n ce sl : Nat} {hh : List (Nat × Nat × Nat × Nat)}
/-- a call that may throw, where the table of this method takes what it throws -/
theorem aw_tryV {Tc : ATy} {y : MethodName} {Po : APost} {index : Nat} {sk as : List Value} {i ci na : Nat} {fs : List Value} {r : vw_C} (hL : Cond.methodLink T.1 index y ∈ GW) (hins : Cond.instanceMethod y ∈ GW) (hsel : Cond.selects y.cls y y ∈ GW) (hK : KO y Tc.2.1 Tc.2.2.1 Tc.2.2.2.1 na) (hM : AMet Tc y [Cond.code y Tc.2.1 Tc.2.2.1 Tc.2.2.2.1] (.ref i :: as) h n Po) (hd : decode T.2.1 pc = .ok (.invokevirtual index, 3)) (he : h i = .inr (ci, fs)) (hi : i < n) (hcl : vwCl[ci]? = some r) (hr1 : r.1 = y.cls) (hst : sk = as.reverse ++ .ref i :: st) (hna9 : as.length = na) (hw : (st.map fun v => v.category).sum ≤ 8) (hR : RmOk T Tc ce sl) (hlo : LC n lo) (hcs : ∀ v ∈ st, clV n v)
    (kx : ∀ E h' n', Po (.inr E) h' n' → ∃ tgt, HX T.1 hh pc E tgt ∧ AH T Q (CH hh) tgt h' n' (ce + Tc.2.2.2.2.1.cells) (sl + Tc.2.2.2.2.1.slots)) (kk : ∀ (v : Option Value) (h' : Nat → AE) (n' : Nat), Po (.inl v) h' n' → n ≤ n' → n' ≤ 900000 → AW T Q (CH hh) (pc + 3) lo (v.toList ++ st) h' n' (ce + Tc.2.2.2.2.1.cells) (sl + Tc.2.2.2.2.1.slots)) : AW T Q (CH hh) pc lo sk h n ce sl := by
  intro p l e1 s m args below meth c H locs ls ad kc D z A hF hC hD
  have hM1 := hM l hF.2.2.2.2.2.2.2.1 ad kc D H.size
  have hrec := va_recv hD.1 hD.2.1 hcl (cW_getE (ad := ad) (kc := kc) hi he rfl)
  rw [hr1] at hrec
  subst hst
  refine aw_runA (a := (Value.ref (ad i) :: as.map (cv ad)).toArray) (mc := Tc.2.2.2.2.1.cells) (ms := Tc.2.2.2.2.1.slots) hF hC hD hlo hcs ?_ ?_ kk
  · exact vx_runV (bytes := Tc.2.1) (maxL := Tc.2.2.1) (ret := Tc.2.2.2.1) (n := na) (C := y.cls) (b := ad i) (As := as.map (cv ad)) (own := T.1) (Ts := GW) (nL := T.2.2.1) ⟨hF.1, hF.2.1, hF.2.2.1, hF.2.2.2.1, hF.2.2.2.2.1⟩ hM1
      ⟨callB_of (ws' := []) na hF.2.2.2.2.1 (ko_good hK) rfl rfl rfl (hF.2.2.2.2.1 _ hK.2.1) (hF.2.2.2.2.1 _ hL) hK.2.2 ⟨hR.1, hR.2.1⟩, hF.2.2.2.2.1 _ hins, hF.2.2.2.2.1 _ hsel⟩
      ⟨apc_blind, hrec, apc_at (av := .ref i :: as) hF hD⟩ rfl (by rw [List.length_map]; exact hna9) hD.2.2.2.2.2.2.1 (by simp [List.map_append, List.map_reverse, cv]) (lv_room (by rw [sum_cat]; exact hw)) hd ⟨hR.2.2.1, hR.2.2.2⟩
  · intro E h' n' ad' H1 locs1 q cl hp hge hag hD1 h1 h2 h3
    obtain ⟨tgt, ⟨pre, x, suf, x1, x2, x3, x4, ⟨nm, x5, x6⟩, x7⟩, hA⟩ := kx E h' n' hp
    have hnc := hF.2.2.2.2.2.2.2.2.2.1.2.2.2.2.2.2.2.2.1
    refine vx_catch (own := T.1) (name := nm) (E := E) (ce := cl) hF.2.2.2.1 pre x suf (hC.trans x1) ?_ x3 x4 (hF.2.2.2.2.1 _ x5) (hF.2.2.2.2.1 _ x6) h1 h2 h3 ?_
    · intro w hw
      rcases x2 w hw with q1 | ⟨q1, nm2, q2, q3⟩
      · exact Or.inl q1
      · exact Or.inr ⟨q1, nm2, hF.2.2.2.2.1 _ q2, hnc _ q3⟩
    · rw [x7]
      have hl0 : ∀ ls' : Array Slot, ls'.size = T.2.2.1 → lv_wf ls' → DY T s H1 locs1 ls' ad' kc D z A [] h' n' := fun ls' g1 g2 => dy_lo hD1 ⟨g1, g2, fun i v hv => by simp at hv⟩
      rcases hA with ⟨k, a1, a2, a3⟩ | ⟨k, a1, a2, a3⟩
      · exact lv_astore (x := q) hF.1 hF.2.1 a1 (lvh_has hD1.2.2.2.2.2.2) a2 rfl (fun ls' hls => a3 p l e1 s m args below meth c H1 locs1 ls' ad' kc D z A hF hC (hl0 ls' hls.1 hls.2.1))
      · exact lv_astore_n (x := q) hF.1 hF.2.1 a1 rfl (lvh_has hD1.2.2.2.2.2.2) a2 rfl (fun ls' hls => a3 p l e1 s m args below meth c H1 locs1 ls' ad' kc D z A hF hC (hl0 ls' hls.1 hls.2.1))
end Hrows
/-- a method with handlers that can be called -/
def KOW (y : MethodName) (cc : ByteArray) (maxL : Nat) (ret : Option FieldType) (hh : List (Nat × Nat × Nat × Nat)) (na : Nat) : Prop := Cond.codeWith y cc maxL ret hh ∈ GW ∧ Cond.initialized y.cls ∈ GW ∧ (y.cls ≠ "java/lang/invoke/MethodHandle" ∧ y.cls ≠ "java/lang/invoke/VarHandle" ∧ (parseMethodDescriptor y.desc).map (fun d => d.parameters.length) = some na)
theorem kow_good {y : MethodName} {cc : ByteArray} {maxL na : Nat} {ret : Option FieldType} {hh : List (Nat × Nat × Nat × Nat)} {own : String} {index : Nat} (hk : KOW y cc maxL ret hh na) (hl : Cond.methodLink own index y ∈ GW) (hs : Cond.static y ∈ GW) : GoodIn GW (va_wsS own index y [Cond.codeWith y cc maxL ret hh]) := by
  intro w hw
  have hm : w ∈ GW := by
    simp only [va_wsS, List.mem_append, List.mem_cons, List.not_mem_nil, or_false] at hw
    rcases hw with (rfl | rfl | rfl) | rfl
    · exact hl
    · exact hs
    · exact hk.2.1
    · exact hk.1
  exact ⟨hm, by
    simp only [va_wsS, List.mem_append, List.mem_cons, List.not_mem_nil, or_false] at hw
    rcases hw with (rfl | rfl | rfl) | rfl <;> exact good_of_word (show goodWord _ = true from (List.mem_filter.mp hm).2)⟩
theorem aw_callSW {T Tc : ATy} {Q : AQ} {CX : AC} {pc : Nat} {lo : List (Option Value)} {st : List Value} {h : Nat → AE} {n ce sl : Nat} {hh : List (Nat × Nat × Nat × Nat)} {y : MethodName} {Po : APost} {index na : Nat} {sk as : List Value} (hL : Cond.methodLink T.1 index y ∈ GW) (hsta : Cond.static y ∈ GW) (hK : KOW y Tc.2.1 Tc.2.2.1 Tc.2.2.2.1 hh na) (hM : AMet Tc y [Cond.codeWith y Tc.2.1 Tc.2.2.1 Tc.2.2.2.1 hh] as h n Po) (hd : decode T.2.1 pc = .ok (.invokestatic index, 3)) (hst : sk = as.reverse ++ st) (hna9 : as.length = na) (hw : (st.map fun v => v.category).sum ≤ 8) (hR : RmOk T Tc ce sl) (hlo : LC n lo) (hcs : ∀ v ∈ st, clV n v)
    (hnx : ∀ E h' n', ¬ Po (.inr E) h' n') (kk : ∀ (v : Option Value) (h' : Nat → AE) (n' : Nat), Po (.inl v) h' n' → n ≤ n' → n' ≤ 900000 → AW T Q CX (pc + 3) lo (v.toList ++ st) h' n' (ce + Tc.2.2.2.2.1.cells) (sl + Tc.2.2.2.2.1.slots)) : AW T Q CX pc lo sk h n ce sl := by
  intro p l e1 s m args below meth c H locs ls ad kc D z A hF hC hD
  have hM1 := met_of_vx (hM l hF.2.2.2.2.2.2.2.1 ad kc D H.size) (fun E s t hx => by obtain ⟨⟨h', n', ad', hp, -⟩, -⟩ := hx; exact hnx _ _ _ hp)
  subst hst
  refine aw_runA (a := (as.map (cv ad)).toArray) (mc := Tc.2.2.2.2.1.cells) (ms := Tc.2.2.2.2.1.slots) hF hC hD hlo hcs ?_ (fun E h' n' ad' H1 locs1 q cl hp => absurd hp (hnx _ _ _)) kk
  refine run_of_va ?_
  exact vx_runSW (bytes := Tc.2.1) (maxL := Tc.2.2.1) (ret := Tc.2.2.2.1) (hh := hh) (n := na) (As := as.map (cv ad)) (own := T.1) (Ts := GW) (nL := T.2.2.1) ⟨hF.1, hF.2.1, hF.2.2.1, hF.2.2.2.1, hF.2.2.2.2.1⟩ hM1
      (vx_cwSW (ws' := []) na hF.2.2.2.2.1 (kow_good hK hL hsta) rfl rfl rfl hK.2.2 ⟨hR.1, hR.2.1⟩)
      ⟨apc_blind, apc_at (av := as) hF hD⟩ rfl (by rw [List.length_map]; exact hna9) hD.2.2.2.2.2.2.1 (by simp [List.map_append, List.map_reverse]) (lv_room (by rw [sum_cat]; exact hw)) hd ⟨hR.2.2.1, hR.2.2.2⟩
