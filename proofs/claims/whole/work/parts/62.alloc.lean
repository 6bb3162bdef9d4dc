/-- a value whose number, if it has one, is one of the first n, or of the fixed ones -/
def clV (n : Nat) (v : Value) : Prop := match v with
  | .ref r => r < n ∨ 900000 ≤ r
  | _ => True
def clE (n : Nat) (e : AE) : Prop := match e with
  | .inl (_, (_, .inr (.inr (.inr (.inr f))))) => ∀ j r, f j = some r → r < n ∨ 900000 ≤ r
  | .inl _ => True
  | .inr (_, fs) => ∀ v ∈ fs, clV n v
/-- the first n entries name none beyond them -/
def HC (h : Nat → AE) (n : Nat) : Prop := ∀ i, i < n → clE n (h i)
theorem clV.up {n m : Nat} {v : Value} (h : clV n v) (hm : n ≤ m) : clV m v := by
  cases v <;> first | trivial | exact h.imp (fun q => Nat.lt_of_lt_of_le q hm) id
theorem clE.up {n m : Nat} {e : AE} (h : clE n e) (hm : n ≤ m) : clE m e := by
  match e, h with
  | .inl (_, (_, .inr (.inr (.inr (.inr f))))), h => exact fun j r q => (h j r q).imp (fun q => Nat.lt_of_lt_of_le q hm) id
  | .inl (_, (_, .inl _)), _ => trivial
  | .inl (_, (_, .inr (.inl _))), _ => trivial
  | .inl (_, (_, .inr (.inr (.inl _)))), _ => trivial
  | .inl (_, (_, .inr (.inr (.inr (.inl _))))), _ => trivial
  | .inr (_, fs), h => exact fun v hv => (h v hv).up hm
theorem HC.set {h : Nat → AE} {n i : Nat} {e : AE} (hh : HC h n) (he : clE n e) : HC (hset h i e) n := by
  intro j hj
  unfold hset
  split
  · exact he
  · exact hh j hj
theorem HC.new {h : Nat → AE} {n : Nat} {e : AE} (hh : HC h n) (he : clE (n + 1) e) : HC (hset h n e) (n + 1) := by
  intro j hj
  unfold hset
  split
  · exact he
  · exact (hh j (by omega)).up (Nat.le_succ n)
def AgA (ad ad' : Nat → Nat) (n : Nat) : Prop := ∀ i, (i < n ∨ 900000 ≤ i) → ad' i = ad i
theorem cv_ag {ad ad' : Nat → Nat} {n : Nat} (ha : AgA ad ad' n) {v : Value} (h : clV n v) : cv ad' v = cv ad v := by
  cases v <;> first | rfl | exact congrArg Value.ref (ha _ h)
theorem map_ag {ad ad' : Nat → Nat} {n : Nat} (ha : AgA ad ad' n) {st : List Value} (h : ∀ v ∈ st, clV n v) : st.map (cv ad') = st.map (cv ad) := List.map_congr_left (fun v hv => cv_ag ha (h v hv))
theorem cE_ag {ad ad' : Nat → Nat} {n : Nat} (ha : AgA ad ad' n) {kc : Nat → ClassId} {e : AE} (h : clE n e) : cE ad' kc e = cE ad kc e := by
  match e, h with
  | .inl (k, (m, .inr (.inr (.inr (.inr f))))), h =>
    have e2 : (fun j => (f j).map ad') = fun j => (f j).map ad := by
      funext j
      cases hj : f j with
      | none => rfl
      | some r => exact congrArg some (ha r (h j r hj))
    show Sum.inl (kc k, m, Sum.inr (Sum.inr (Sum.inr (Sum.inr (fun j => (f j).map ad'))))) = Sum.inl (kc k, m, Sum.inr (Sum.inr (Sum.inr (Sum.inr (fun j => (f j).map ad)))))
    rw [e2]
  | .inl (_, (_, .inl _)), _ => rfl
  | .inl (_, (_, .inr (.inl _))), _ => rfl
  | .inl (_, (_, .inr (.inr (.inl _)))), _ => rfl
  | .inl (_, (_, .inr (.inr (.inr (.inl _))))), _ => rfl
  | .inr (ci, fs), h => exact congrArg (fun x => (Sum.inr (ci, x) : va_E)) (map_ag ha h)
def adU (ad : Nat → Nat) (n q : Nat) : Nat → Nat := fun i => if i = n then q else ad i
theorem adU_ag {ad : Nat → Nat} {n q : Nat} (hn : n < 900000) : AgA ad (adU ad n q) n := fun i hi => if_neg (by omega)
theorem cW_new {ad : Nat → Nat} {kc : Nat → ClassId} {h : Nat → AE} {n q : Nat} {e : AE} (hc : HC h n) (hn : n < 900000) : cW (adU ad n q) kc (hset h n e) (n + 1) = cW ad kc h n ++ [(q, cE (adU ad n q) kc e)] := by
  unfold cW
  rw [List.range_succ, List.map_append]
  congr 1
  · apply List.map_congr_left
    intro i hi
    have hi := List.mem_range.mp hi
    rw [show adU ad n q i = ad i from if_neg (by omega), show hset h n e i = h i from if_neg (by omega), cE_ag (adU_ag hn) (hc i hi)]
  · show [(adU ad n q n, cE (adU ad n q) kc (hset h n e n))] = _
    rw [show adU ad n q n = q from if_pos rfl, show hset h n e n = e from if_pos rfl]
def LC (n : Nat) (lo : List (Option Value)) : Prop := ∀ v, some v ∈ lo → clV n v
theorem dy_new {T : ATy} {s : State} {H H1 : Heap} {locs : List Loc} {ls : Array Slot} {ad : Nat → Nat} {kc : Nat → ClassId} {D : va_G} {z : (Nat → Nat) × Nat} {A : Nat → Prop} {lo : List (Option Value)} {h : Nat → AE} {n q : Nat} {e : AE} {e' : va_E} (hD : DY T s H locs ls ad kc D z A lo h n) (hc : HC h n) (hn : n < 900000) (hlo : LC n lo) (he : cE (adU ad n q) kc e = e')
    (hP1 : va_P D vwCl (cW ad kc h n ++ [(q, e')]) H1) (hD1 : va_D A (cW ad kc h n ++ [(q, e')])) (hS1 : va_S A s.heap H1 locs) : DY T s H1 locs ls (adU ad n q) kc D z A lo (hset h n e) (n + 1) := by
  subst he
  rw [← cW_new hc hn] at hP1 hD1
  obtain ⟨k1, -, -, -, k5, k6, k7⟩ := hD
  refine ⟨k1, hP1, hD1, hS1, fun i hi => ?_, ⟨by omega, by omega⟩, k7.1, k7.2.1, fun i v hv => ?_⟩
  · rw [show adU ad n q i = ad i from if_neg (by omega)]
    exact k5 i (by omega)
  · rw [cv_ag (adU_ag hn) (hlo v (List.mem_of_getElem? hv))]
    exact k7.2.2 i v hv
section Arows
variable {T : ATy} {Q : AQ} {CX : AC} {pc : Nat} {lo : List (Option Value)} {st : List Value} {h : Nat → AE} {n ce sl : Nat}
/-- an object of the class ci can be made by own, its fields then fs -/
def NW (own : String) (index ci N : Nat) (fs : List Value) : Prop := ∃ (C : String) (TT : u_T) (ty : Nat → FieldType), vwCl[ci]? = some (C, TT, N) ∧ (∀ w ∈ u_ws C TT N, w ∈ GW) ∧ (∀ k, k < N → parseFieldDescriptor (TT k).2.2.1 = some (ty k)) ∧ Cond.classLink own index C ∈ GW ∧ Cond.instantiable C N ∈ GW ∧ Cond.initialized C ∈ GW ∧ (∀ j, j < N → defaultValue (ty j) = vp_V fs j) ∧ ∀ ad : Nat → Nat, fs.map (cv ad) = fs
theorem aw_new {index ci N : Nat} {fs : List Value} (hN : NW T.1 index ci N fs) (hd : decode T.2.1 pc = .ok (.new index, 3)) (hc : HC h n) (hn : n < 900000) (hlo : LC n lo) (hst : ∀ v ∈ st, clV n v) (hce : ce + 1 ≤ T.2.2.2.2.1.cells) (hsl : sl + N ≤ T.2.2.2.2.1.slots)
    (kk : AW T Q CX (pc + 3) lo (.ref n :: st) (hset h n (.inr (ci, fs))) (n + 1) (ce + 1) (sl + N)) : AW T Q CX pc lo st h n ce sl := by
  intro p l e1 s m args below meth c H locs ls ad kc D z A hF hC hD
  obtain ⟨C, TT, ty, h1, h2, h3, h4, h5, h6, h7, h8⟩ := hN
  refine va_new (D := D) (cl := vwCl) (tys := tysOf kc) (ws := cW ad kc h n) hF.1 hF.2.1 hF.2.2.2.2.1 h2 ty h3 hF.2.2.2.1 (hF.2.2.2.2.1 _ h4) (hF.2.2.2.2.1 _ h5) (hF.2.2.2.2.1 _ h6) hD.1 hD.2.1 hD.2.2.1 hD.2.2.2.1 hF.2.2.2.2.2.2.2.2.1 h1 h7 hce hsl hd ?_
  intro q H1 hP1 hD1 hS1
  have := kk p l e1 s m args below meth c H1 locs ls (adU ad n q) kc D z A hF hC (dy_new hD hc hn hlo (by show Sum.inr (ci, fs.map (cv (adU ad n q))) = _; rw [h8]) hP1 hD1 hS1)
  rw [List.map_cons, show cv (adU ad n q) (.ref n) = .ref q from congrArg Value.ref (if_pos rfl), map_ag (adU_ag hn) hst] at this
  exact this
theorem aw_newa {kd N : Nat} {v : Int32} {atype : ArrayType} {ty : FieldType} {a0 : vp_A} (hty : newarray.typeOf atype = ty) (harr : Cond.arrayClass (newarray.typeOf atype) ∈ GW) (hkd : ∀ kc : Nat → ClassId, (tysOf kc)[kd]? = some (kc kd, ty)) (hra : ∀ (U : State) (c1 c2 : ClassId), va_RA U c1 ty → va_RA U c2 ty → c1 = c2) (ha : ∀ cA : ClassId, vp_cell cA a0 = arrV cA N (fun _ => defaultValue ty)) (hcv : ∀ ad : Nat → Nat, cvA ad a0 = a0)
    (hv : ¬ v < 0) (hN : v.toNatClampNeg = N) (hby : N * componentBytes ty ≤ 536870912) (hd : decode T.2.1 pc = .ok (.newarray atype, 2)) (hc : HC h n) (hn : n < 900000) (hlo : LC n lo) (hst : ∀ v ∈ st, clV n v) (hce : ce + 1 ≤ T.2.2.2.2.1.cells) (hsl : sl + N ≤ T.2.2.2.2.1.slots)
    (kk : AW T Q CX (pc + 2) lo (.ref n :: st) (hset h n (.inl (kd, a0))) (n + 1) (ce + 1) (sl + N)) : AW T Q CX pc lo (.int v :: st) h n ce sl := by
  intro p l e1 s m args below meth c H locs ls ad kc D z A hF hC hD
  refine va_newa (D := D) (cl := vwCl) (tys := tysOf kc) (ws := cW ad kc h n) (a0 := a0) hF.1 hF.2.1 (hF.2.2.2.2.1 _ harr) hty hD.1 hD.2.1 hD.2.2.1 hD.2.2.2.1 hF.2.2.2.2.2.2.2.2.1 ha hv hN hby hce hsl hd ?_
  intro q cA H1 hK1 hP1 hD1 hS1
  have e5 : (tysOf kc ++ [(cA, ty)])[kd]? = some (kc kd, ty) := by
    have := hkd kc
    rw [List.getElem?_append_left (List.getElem?_eq_some_iff.mp this).1]
    exact this
  have hcA : kc kd = cA := hra s _ _ (hK1.2 kd _ e5).2 (hK1.2 5 _ rfl).2
  subst hcA
  have := kk p l e1 s m args below meth c H1 locs ls (adU ad n q) kc D z A hF hC (dy_new hD hc hn hlo (by show Sum.inl (kc kd, cvA (adU ad n q) a0) = _; rw [hcv]) hP1 hD1 hS1)
  rw [List.map_cons, show cv (adU ad n q) (.ref n) = .ref q from congrArg Value.ref (if_pos rfl), map_ag (adU_ag hn) hst] at this
  exact this
theorem aw_newq {index N : Nat} {v : Int32} (hcl : Cond.classLink T.1 index "Campground$Camp" ∈ GW) (hv : ¬ v < 0) (hN : v.toNatClampNeg = N) (hby : N * 4 ≤ 536870912) (hd : decode T.2.1 pc = .ok (.anewarray index, 3)) (hc : HC h n) (hn : n < 900000) (hlo : LC n lo) (hst : ∀ v ∈ st, clV n v) (hce : ce + 1 ≤ T.2.2.2.2.1.cells) (hsl : sl + N ≤ T.2.2.2.2.1.slots)
    (kk : AW T Q CX (pc + 3) lo (.ref n :: st) (hset h n (.inl (4, N, .inr (.inr (.inr (.inr (fun _ => none))))))) (n + 1) (ce + 1) (sl + N)) : AW T Q CX pc lo (.int v :: st) h n ce sl := by
  intro p l e1 s m args below meth c H locs ls ad kc D z A hF hC hD
  refine va_newq (D := D) (cl := vwCl) (tys := tysOf kc) (ws := cW ad kc h n) hF.1 hF.2.1 hF.2.2.2.1 (hF.2.2.2.2.1 _ hcl) hF.2.2.2.2.2.2.2.2.2.1.2.2.2.2.2.2.2.2.2 hD.1 hD.2.1 hD.2.2.1 hD.2.2.2.1 hF.2.2.2.2.2.2.2.2.1 hv hN hby hce hsl hd ?_
  intro q cA H1 hK1 hP1 hD1 hS1
  obtain ⟨_, _, _, _, _, r1⟩ := (hK1.2 4 _ rfl).2
  obtain ⟨_, _, _, _, _, r2⟩ := (hK1.2 5 _ rfl).2
  have hcA : kc 4 = cA := Option.some.inj (r1.symm.trans r2)
  subst hcA
  have := kk p l e1 s m args below meth c H1 locs ls (adU ad n q) kc D z A hF hC (dy_new hD hc hn hlo rfl hP1 hD1 hS1)
  rw [List.map_cons, show cv (adU ad n q) (.ref n) = .ref q from congrArg Value.ref (if_pos rfl), map_ag (adU_ag hn) hst] at this
  exact this
/-- the constructor of Object -/
def KOI (own : String) (index : Nat) : Prop := Cond.methodLink own index Lib.objectInit ∈ GW ∧ Cond.instanceMethod Lib.objectInit ∈ GW ∧ Cond.code Lib.objectInit ⟨#[0xb1]⟩ 1 none ∈ GW
theorem aw_objI {index i : Nat} (hK : KOI T.1 index) (hd : decode T.2.1 pc = .ok (.invokespecial index, 3)) (hR : 1 ≤ T.2.2.2.2.1.frames ∧ (st.map fun v => v.category).sum + 12 ≤ T.2.2.2.2.1.locals) (kk : AW T Q CX (pc + 3) lo st h n ce sl) : AW T Q CX pc lo (.ref i :: st) h n ce sl := by
  intro p l e1 s m args below meth c H locs ls ad kc D z A hF hC hD
  exact W.objInit (rest := st.map (cv ad)) hF.1 hF.2.1 hF.2.2.2.1 (hF.2.2.2.2.1 _ hK.1) (hF.2.2.2.2.1 _ hK.2.1) (hF.2.2.2.2.1 _ hK.2.2) rfl (by rw [hF.2.2.1]; exact hD.2.2.2.2.2.2.1) rfl hd hR.1 (by rw [sum_cat, show 2 * (F0 m pc ls (cv ad (Value.ref i) :: st.map (cv ad))).monitorRoom = 0 from rfl, Nat.zero_add]; exact hR.2) (kk p l e1 s m args below meth c H locs ls ad kc D z A hF hC hD)
theorem aw_runA {Po : APost} {p : Program} {l : Launch} {e0 : Env} {s : State} {m : MethodId} {args : Array Value} {below : List Frame} {meth : Method} {c : Code} {H : Heap} {locs : List Loc} {ls : Array Slot} {ad : Nat → Nat} {kc : Nat → ClassId} {D : va_G} {z : (Nat → Nat) × Nat} {A : Nat → Prop} {mc ms : Nat} {sk : List Value} {a : Array Value}
    (hF : FX T p l s m args meth c z A) (hC : CX c s z A) (hD : DY T s H locs ls ad kc D z A lo h n) (hlo : LC n lo) (hst : ∀ v ∈ st, clV n v)
    (hr : vx_Run p l e0 T.2.2.2.2.1 s m args below meth c H locs ce sl mc ms (F0 m pc ls sk) (st.map (cv ad)) (AQc Po kc D (ad, n) (va_A (cW ad kc h n) H.size) a) (AXc Po kc D (ad, n) (va_A (cW ad kc h n) H.size)) (va_A (cW ad kc h n) H.size))
    (kx : ∀ (E : String) (h' : Nat → AE) (n' : Nat) (ad' : Nat → Nat) (H1 : Heap) (locs1 : List Loc) (q : Addr) (cl : Cell), Po (.inr E) h' n' → n ≤ n' → AgA ad ad' n → DY T s H1 locs1 ls ad' kc D z A lo h' n' → H1[q]? = some cl → cl.vm = .none → s.vm.findClass E = some cl.cls → vx_W p l e0 T.2.2.2.2.1 s m args below meth c H1 locs1 (ce + mc) (sl + ms) (Q below args s kc D z A) (F0 m pc ls (st.map (cv ad))) q)
    (kk : ∀ (v : Option Value) (h' : Nat → AE) (n' : Nat), Po (.inl v) h' n' → n ≤ n' → n' ≤ 900000 → AW T Q CX (pc + 3) lo (v.toList ++ st) h' n' (ce + mc) (sl + ms)) : W p l e0 T.2.2.2.2.1 s m args below meth c H locs ce sl (Q below args s kc D z A) (F0 m pc ls sk) := by
  intro T0 hT X
  have hA : ∀ q, va_A (cW ad kc h n) H.size q → A q := by
    intro q hq
    rcases hq with ⟨k, e, hk⟩ | hq
    · exact hD.2.2.1.2 k _ hk
    · exact hF.2.2.2.2.2.2.2.2.1 q (Nat.le_trans hD.2.2.2.1.1 hq)
  have hdy : ∀ (h' : Nat → AE) (n' : Nat) (ad' : Nat → Nat) (t T' : State) (L : List Loc), T'.heap = t.heap → s.vm.Alike t.vm → va_S A s.heap T'.heap (locs ++ L) → AWd kc D (ad, n) (va_A (cW ad kc h n) H.size) ad' h' n' t → AgA ad ad' n ∧ n ≤ n' ∧ n' ≤ 900000 ∧ DY T s T'.heap (locs ++ L) ls ad' kc D z A lo h' n' := by
    intro h' n' ad' t T' L e1 hv k3 hw
    obtain ⟨w1, w2, w3, w4, w5, w6⟩ := hw
    have w5 : n ≤ n' := w5
    have ag : AgA ad ad' n := fun i hi => w4 i (hi.imp id (fun q => Nat.le_trans w6 q))
    refine ⟨ag, w5, w6, hD.1, by rw [e1]; exact w1, w3.weaken (fun _ q _ hq => hA q.1 hq), k3, fun i hi => ?_, ⟨Nat.le_trans hD.2.2.2.2.2.1.1 w5, w6⟩, hD.2.2.2.2.2.2.1, hD.2.2.2.2.2.2.2.1, fun i v hv => ?_⟩
    · have hz := hD.2.2.2.2.2.1.1
      rw [w4 i (hi.imp (fun q => Nat.lt_of_lt_of_le q hz) id)]
      exact hD.2.2.2.2.1 i (hi.imp id (fun q => Nat.le_trans w5 q))
    · rw [cv_ag ag (hlo v (List.mem_of_getElem? hv))]
      exact hD.2.2.2.2.2.2.2.2 i v hv
  rcases hr T0 hT X with ⟨v0, st₀, t, T', L, h0, X', hL, e1, e2, ⟨⟨v, h', n', ad', hv, hp, hw⟩, hFr⟩, st1⟩ | ⟨q, st₀, t, T', L, E, cl, h0, X', hL, e1, e2, ⟨⟨h', n', ad', hp, hw⟩, hFr⟩, hce, hcv, hcl, st1⟩
  · obtain ⟨k1, k2, k3⟩ := vx_keep h0 e1 hD.2.2.2.1 (fun q _ hq => hA q hq) hA hL hFr
    obtain ⟨ag, g1, g2, hdy1⟩ := hdy h' n' ad' t T' L e1 (by rw [← e2]; exact X'.warmed.alike) k3 hw
    have hv' : v0 = v.map (cv ad') := by cases hv; rfl
    subst hv'
    obtain ⟨t2, a1, b1⟩ := kk v h' n' hp g1 g2 p l e0 s m args below meth c T'.heap (locs ++ L) ls ad' kc D z A hF hC hdy1 T' rfl X'
    refine ⟨t2, st1 t2 ?_, b1⟩
    have e3 : (v.toList ++ st).map (cv ad') = (v.map (cv ad')).toList ++ st.map (cv ad) := by rw [List.map_append, map_ag ag hst]; cases v <;> simp
    rw [e3] at a1
    exact a1
  · obtain ⟨k1, k2, k3⟩ := vx_keep h0 e1 hD.2.2.2.1 (fun q _ hq => hA q hq) hA hL hFr
    obtain ⟨ag, g1, g2, hdy1⟩ := hdy h' n' ad' t T' L e1 (by rw [← e2]; exact X'.warmed.alike) k3 hw
    obtain ⟨t2, a1, b1⟩ := kx E h' n' ad' T'.heap (locs ++ L) q cl hp g1 ag hdy1 (by rw [e1]; exact hce) hcv hcl T' rfl X'
    exact ⟨t2, st1.trans a1, b1⟩
/-- a constructor called -/
theorem aw_callI {Tc : ATy} {y : MethodName} {Po : APost} {index i na : Nat} {sk as : List Value} (hL : KI T.1 index y) (hK : KO y Tc.2.1 Tc.2.2.1 none na) (hM : AMet Tc y [Cond.code y Tc.2.1 Tc.2.2.1 none] (.ref i :: as) h n Po) (hd : decode T.2.1 pc = .ok (.invokespecial index, 3)) (hst : sk = as.reverse ++ .ref i :: st) (hna9 : as.length = na) (hw : (st.map fun v => v.category).sum ≤ 8) (hR : RmOk T Tc ce sl) (hlo : LC n lo) (hcs : ∀ v ∈ st, clV n v)
    (hnx : ∀ E h' n', ¬ Po (.inr E) h' n') (kk : ∀ (v : Option Value) (h' : Nat → AE) (n' : Nat), Po (.inl v) h' n' → n ≤ n' → n' ≤ 900000 → AW T Q CX (pc + 3) lo (v.toList ++ st) h' n' (ce + Tc.2.2.2.2.1.cells) (sl + Tc.2.2.2.2.1.slots)) : AW T Q CX pc lo sk h n ce sl := by
  intro p l e1 s m args below meth c H locs ls ad kc D z A hF hC hD
  have hM1 := met_of_vx (hM l hF.2.2.2.2.2.2.2.1 ad kc D H.size) (fun E s t hx => by obtain ⟨⟨h', n', ad', hp, -⟩, -⟩ := hx; exact hnx _ _ _ hp)
  subst hst
  refine aw_runA (a := (Value.ref (ad i) :: as.map (cv ad)).toArray) (mc := Tc.2.2.2.2.1.cells) (ms := Tc.2.2.2.2.1.slots) hF hC hD hlo hcs ?_ (fun E h' n' ad' H1 locs1 q cl hp => absurd hp (hnx _ _ _)) kk
  refine run_of_va ?_
  obtain ⟨hL | ⟨host, hL⟩, hnm, hins⟩ := hL
  · exact va_runI (bytes := Tc.2.1) (maxL := Tc.2.2.1) (n := na) (b := ad i) (As := as.map (cv ad)) (own := T.1) (Ts := GW) (nL := T.2.2.1) ⟨hF.1, hF.2.1, hF.2.2.1, hF.2.2.2.1, hF.2.2.2.2.1⟩ hM1
      ⟨callB_of (ws' := []) na hF.2.2.2.2.1 (ko_good hK) rfl rfl rfl (hF.2.2.2.2.1 _ hK.2.1) (hF.2.2.2.2.1 _ hL) hK.2.2 ⟨hR.1, hR.2.1⟩, hnm, hF.2.2.2.2.1 _ hins⟩
      ⟨apc_blind, apc_at (av := .ref i :: as) hF hD⟩ rfl (by rw [List.length_map]; exact hna9) hD.2.2.2.2.2.2.1 (by simp [List.map_append, List.map_reverse, cv]) (lv_room (by rw [sum_cat]; exact hw)) hd ⟨hR.2.2.1, hR.2.2.2⟩
  · exact va_runIN (bytes := Tc.2.1) (maxL := Tc.2.2.1) (n := na) (b := ad i) (As := as.map (cv ad)) (own := T.1) (Ts := GW) (nL := T.2.2.1) ⟨hF.1, hF.2.1, hF.2.2.1, hF.2.2.2.1, hF.2.2.2.2.1⟩ hM1
      ⟨va_cnB (ws' := []) na hF.2.2.2.2.1 (ko_good hK) rfl rfl rfl (va_Nw.of rfl (hF.2.2.2.2.1 _ hL)) (hF.2.2.2.2.1 _ hK.2.1) hK.2.2 ⟨hR.1, hR.2.1⟩, hnm, hF.2.2.2.2.1 _ hins⟩
      ⟨apc_blind, apc_at (av := .ref i :: as) hF hD⟩ rfl (by rw [List.length_map]; exact hna9) hD.2.2.2.2.2.2.1 (by simp [List.map_append, List.map_reverse, cv]) (lv_room (by rw [sum_cat]; exact hw)) hd ⟨hR.2.2.1, hR.2.2.2⟩
end Arows
