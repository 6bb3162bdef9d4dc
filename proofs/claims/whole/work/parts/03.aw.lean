/-! ===== THE ABSTRACT LAYER: a heap of numbered entries over the machine's heap; one judgement AW a place in a method's code ===== -/
/-- entries: an array (its kind, its length, its contents), an object (its class's place, its fields); references are numbers of entries -/
abbrev AE : Type := (Nat × vp_A) ⊕ (Nat × List Value)
def cv (ad : Nat → Nat) (v : Value) : Value := match v with
  | .ref i => .ref (ad i)
  | w => w
def cvA (ad : Nat → Nat) (a : vp_A) : vp_A := match a with
  | (n, .inr (.inr (.inr (.inr f)))) => (n, .inr (.inr (.inr (.inr (fun j => (f j).map ad)))))
  | x => x
def cE (ad : Nat → Nat) (kc : Nat → ClassId) (e : AE) : va_E := match e with
  | .inl (k, a) => .inl (kc k, cvA ad a)
  | .inr (ci, fs) => .inr (ci, fs.map (cv ad))
def cW (ad : Nat → Nat) (kc : Nat → ClassId) (h : Nat → AE) (n : Nat) : va_W := (List.range n).map (fun i => (ad i, cE ad kc (h i)))
def hset (h : Nat → AE) (i : Nat) (e : AE) : Nat → AE := fun j => if j = i then e else h j
theorem cW_get {ad : Nat → Nat} {kc : Nat → ClassId} {h : Nat → AE} {n i : Nat} (hi : i < n) : (cW ad kc h n)[i]? = some (ad i, cE ad kc (h i)) := by
  simp [cW, hi]
theorem cW_getE {ad : Nat → Nat} {kc : Nat → ClassId} {h : Nat → AE} {n i : Nat} {e : AE} {e' : va_E} (hi : i < n) (he : h i = e) (hc : cE ad kc e = e') : (cW ad kc h n)[i]? = some (ad i, e') := by
  rw [cW_get hi, he, hc]
theorem cW_mem {ad : Nat → Nat} {kc : Nat → ClassId} {h : Nat → AE} {n k : Nat} {q : Nat × va_E} (hq : (cW ad kc h n)[k]? = some q) : k < n ∧ q = (ad k, cE ad kc (h k)) := by
  have hk : k < n := by
    have h1 := (List.getElem?_eq_some_iff.mp hq).1
    simpa [cW] using h1
  rw [cW_get hk] at hq
  exact ⟨hk, (Option.some.inj hq).symm⟩
theorem cW_set {ad : Nat → Nat} {kc : Nat → ClassId} {h : Nat → AE} {n i : Nat} {e : AE} (hi : i < n) : (cW ad kc h n).set i (ad i, cE ad kc e) = cW ad kc (hset h i e) n := by
  apply List.ext_getElem?
  intro j
  rw [List.getElem?_set]
  by_cases hj : i = j
  · subst hj
    rw [if_pos rfl, cW_get hi]
    have hl : i < (cW ad kc h n).length := by simpa [cW] using hi
    rw [if_pos hl]
    simp [hset]
  · rw [if_neg hj]
    by_cases hn : j < n
    · rw [cW_get hn, cW_get hn]
      simp [hset, Ne.symm hj]
    · have h1 : (cW ad kc h n)[j]? = none := by simp [cW]; omega
      have h2 : (cW ad kc (hset h i e) n)[j]? = none := by simp [cW]; omega
      rw [h1, h2]
theorem cW_congr {ad : Nat → Nat} {kc : Nat → ClassId} {h h' : Nat → AE} {n : Nat} (e : ∀ i, i < n → h i = h' i) : cW ad kc h n = cW ad kc h' n := by
  apply List.map_congr_left
  intro i hi
  rw [e i (List.mem_range.mp hi)]
/-- the words of the tables that hold at every later state too -/
def pw : Cond → Bool
  | .fieldLinkNest .. => true
  | .methodLinkNest .. => true
  | .castable .. => true
  | .declares _ => true
  | w => goodWord w
def GW : List Cond := lw_tbl.filter pw
theorem gw_at {w : Cond} (i : Nat) (hm : lw_tbl[i]? = some w) (hp : pw w = true) : w ∈ GW := List.mem_filter.mpr ⟨List.mem_of_getElem? hm, hp⟩
theorem gw_in {w : Cond} (hm : w ∈ lw_tbl) (hp : pw w = true) : w ∈ GW := List.mem_filter.mpr ⟨hm, hp⟩
theorem gw_lays {C : String} {T : u_T} {N : Nat} (hin : ∀ w ∈ u_ws C T N, w ∈ lw_tbl) : ∀ w ∈ u_ws C T N, w ∈ GW := by
  intro w hw
  refine gw_in (hin w hw) ?_
  obtain ⟨k, -, rfl⟩ := List.mem_map.mp hw
  unfold u_lay
  split <;> rfl
theorem pw_warm {w : Cond} (hp : pw w = true) {a a' : Array Value} {s U : State} (hW : s.WarmedH U.vm) (h : w.before a s = true) : w.before a' U = true := by
  cases w with
  | fieldLinkNest a1 i b n d h1 => exact va_Nw.use rfl (va_Nw.warmF hW (va_Nw.of rfl h))
  | methodLinkNest a1 i x h1 => exact va_Nw.use rfl (va_Nw.warmM hW (va_Nw.of rfl h))
  | castable C T => exact va_Nw.use rfl (va_Nw.warmC hW (va_Nw.of rfl h))
  | declares x => exact va_Nw.use rfl (va_Nw.warmD hW (va_Nw.of rfl h))
  | _ => exact word_at hW (good_of_word hp) h
/-- the array kinds -/
def tysOf (kc : Nat → ClassId) : List (ClassId × FieldType) := [(kc 0, .int), (kc 1, .byte), (kc 2, .long), (kc 3, .boolean), (kc 4, .object "Campground$Camp")]
/-- the constants of the exceptions' texts -/
def STX : List (String × Nat × String) := [("Campground", 71, "there are 4 classes"), ("Campground", 91, "there are 16 sites"), ("Campground", 103, "there are 12 seasons"), ("Campground", 159, "an obstacle, or 60 bookings"), ("Campground", 213, "there is no day after 999"), ("Campground", 235, "there are 20 requests"), ("Campground", 282, "the text would be longer than 500 bytes"), ("Campground", 296, "nothing is saved there"), ("Campground", 300, "no such class"), ("Campground", 303, "no such site"), ("Campground", 305, "no such booking"), ("Campground", 307, "no such request"), ("Campground", 311, "the site has another class"), ("Campground", 314, "out of range"), ("Campground", 316, "not possible in this state")]
/-- the constants that texts are compared with: class, entry, text, which of the four -/
def STW : List (String × Nat × String × Nat) := [("Campground$SetupReader", 59, "class", 0), ("Campground$SetupReader", 71, "site", 1), ("Campground$SetupReader", 76, "season", 2), ("Campground$SetupReader", 81, "day", 3), ("CampgroundModel", 274, "class", 0), ("CampgroundModel", 283, "site", 1), ("CampgroundModel", 287, "season", 2), ("CampgroundModel", 291, "day", 3)]
def SBY : List (List Int32) := [[99, 108, 97, 115, 115], [115, 105, 116, 101], [115, 101, 97, 115, 111, 110], [100, 97, 121]]
/-- which exceptions are none of another kind -/
def NCL : List (String × String) := [("java/lang/IllegalStateException", "java/lang/IllegalArgumentException"), ("java/lang/IndexOutOfBoundsException", "java/lang/IllegalArgumentException"), ("java/lang/IllegalArgumentException", "java/lang/IllegalStateException"), ("java/lang/IndexOutOfBoundsException", "java/lang/IllegalStateException"), ("java/lang/IllegalArgumentException", "java/lang/IndexOutOfBoundsException"), ("java/lang/IllegalStateException", "java/lang/IndexOutOfBoundsException")]
/-- what holds all the way through, of what lies outside the entries -/
def EV (sa : Nat → Nat) (A : Nat → Prop) (U : State) (H : Heap) : Prop :=
  (∀ w ∈ GW, w.before #[] U = true) ∧ vx_Zq Bundle.tN "UNASSIGNED_STACK" Bundle.steD A U H ∧ vx_Zq Bundle.tN "SUPPRESSED_SENTINEL" Bundle.listD A U H ∧
  (∀ q ∈ STX, ∃ a, vk_R q.1 q.2.1 q.2.2 a U) ∧ (∀ q ∈ STW, vk_R q.1 q.2.1 q.2.2.1 (sa q.2.2.2) U) ∧
  vk_S 4 [5, 4, 6, 3] SBY sa (fun k => sa (10 + k)) A U H ∧ va_Z "java/lang/String" "COMPACT_STRINGS" "Z" (.int 1) A U H ∧
  (va_Z "jdk/internal/util/Preconditions" "SIOOBE_FORMATTER" "Ljava/util/function/BiFunction;" .null A U H ∨ va_Z "jdk/internal/util/Preconditions" "SIOOBE_FORMATTER" "Ljava/util/function/BiFunction;" (.ref (sa 20)) A U H) ∧ (∀ q ∈ NCL, va_Nc q.1 q.2 U) ∧ va_AO "Campground$Camp" U
theorem EV.step {sa : Nat → Nat} {A A' : Nat → Prop} {s U : State} {H : Heap} {locs : List Loc} (h : EV sa A s s.heap) (hS : va_S A s.heap H locs) (hU : U.heap = H) (hW : s.WarmedH U.vm) (hA : ∀ q, A' q → A q) : EV sa A' U U.heap := by
  obtain ⟨h1, h2, h3, h4, h5, h6, h7, h8, h9, h10⟩ := h
  have hk : ∀ a : Nat, a < s.heap.size → ¬ A a → U.heap[a]? = s.heap[a]? := fun a q1 q2 => by rw [hU]; exact hS.2.1 a q1 q2
  refine ⟨fun w hw => pw_warm (List.mem_filter.mp hw).2 hW (h1 w hw), ((h2.kept hk).moved hW.alike).narrow hA, ((h3.kept hk).moved hW.alike).narrow hA, fun q hq => ?_, fun q hq => (h5 q hq).warm hW, ((h6.kept hk).moved hW.alike).narrow hA, ((h7.kept hk).moved hW.alike).narrow hA, h8.imp (fun h => ((h.kept hk).moved hW.alike).narrow hA) (fun h => ((h.kept hk).moved hW.alike).narrow hA), fun q hq => va_Nc.moved hW.alike (h9 q hq), va_AO.moved hW.alike h10⟩
  obtain ⟨a, ha⟩ := h4 q hq
  exact ⟨a, ha.warm hW⟩
theorem EV.call {sa : Nat → Nat} {A : Nat → Prop} {U : State} {g : JFrame} {mk : MethodId} {a : Array Value} (h : EV sa A U U.heap) : EV sa A (U.calling g mk a) (U.calling g mk a).heap := by
  have hW : U.WarmedH (U.calling g mk a).vm := State.WarmedH.refl U
  exact EV.step (locs := []) h va_S.rf rfl hW (fun _ h => h)
/-- a method's fixed things: its class, its code, its locals, what it returns, its room, whether it makes an object -/
abbrev ATy : Type := String × ByteArray × Nat × Option FieldType × Room × Bool
/-- how a method ends: an answer or the name of what it throws; the entries then, how many -/
abbrev APost : Type := (Option Value ⊕ String) → (Nat → AE) → Nat → Prop
abbrev AQ : Type := List Frame → Array Value → State → (Nat → ClassId) → va_G → ((Nat → Nat) × Nat) → (Nat → Prop) → State → Prop
def FX (T : ATy) (p : Program) (l : Launch) (s : State) (m : MethodId) (args : Array Value) (meth : Method) (c : Code) (z : (Nat → Nat) × Nat) (A : Nat → Prop) : Prop :=
  p.tables.exec = Jvm.exec ∧ c.code = T.2.1 ∧ c.maxLocals = T.2.2.1 ∧ s.vm.findClass T.1 = some m.cls ∧ (∀ w ∈ GW, w.before args s = true) ∧ meth.locks = false ∧ meth.sig.returnType = T.2.2.2.1 ∧ l.stackTraces = false ∧ (∀ q, s.heap.size ≤ q → A q) ∧ EV (fun k => z.1 (900000 + k)) A s s.heap ∧ (T.2.2.2.2.2 = true → meth.name = "<init>")
def lvh (ls : Array Slot) (nL : Nat) (ad : Nat → Nat) (lo : List (Option Value)) : Prop := ls.size = nL ∧ lv_wf ls ∧ ∀ (i : Nat) (v : Value), lo[i]? = some (some v) → ls[i]? = some (.val (cv ad v))
def DY (T : ATy) (s : State) (H : Heap) (locs : List Loc) (ls : Array Slot) (ad : Nat → Nat) (kc : Nat → ClassId) (D : va_G) (z : (Nat → Nat) × Nat) (A : Nat → Prop) (lo : List (Option Value)) (h : Nat → AE) (n : Nat) : Prop :=
  va_K D vwCl (tysOf kc) s ∧ va_P D vwCl (cW ad kc h n) H ∧ va_D A (cW ad kc h n) ∧ va_S A s.heap H locs ∧ (∀ i, (i < z.2 ∨ n ≤ i) → ad i = z.1 i) ∧ (z.2 ≤ n ∧ n ≤ 900000) ∧ lvh ls T.2.2.1 ad lo
/-- THE JUDGEMENT: in the method T, at pc, with the locals lo, the stack st and the n entries h, the machine comes to Q; CX: what its code's table of handlers and the law's script say -/
def AW (T : ATy) (Q : AQ) (CX : Code → State → ((Nat → Nat) × Nat) → (Nat → Prop) → Prop) (pc : Nat) (lo : List (Option Value)) (st : List Value) (h : Nat → AE) (n ce sl : Nat) : Prop :=
  ∀ (p : Program) (l : Launch) (e : Env) (s : State) (m : MethodId) (args : Array Value) (below : List Frame) (meth : Method) (c : Code) (H : Heap) (locs : List Loc) (ls : Array Slot) (ad : Nat → Nat) (kc : Nat → ClassId) (D : va_G) (z : (Nat → Nat) × Nat) (A : Nat → Prop),
    FX T p l s m args meth c z A → CX c s z A → DY T s H locs ls ad kc D z A lo h n →
    W p l e T.2.2.2.2.1 s m args below meth c H locs ce sl (Q below args s kc D z A) (F0 m pc ls (st.map (cv ad)))
abbrev AC : Type := Code → State → ((Nat → Nat) × Nat) → (Nat → Prop) → Prop
/-- no handlers -/
def C0 : AC := fun c _ _ _ => ∀ x ∈ c.exceptionTable.toList, False
section AWrows
variable {T : ATy} {Q : AQ} {CX : AC} {pc : Nat} {lo lo' : List (Option Value)} {st : List Value} {h h' : Nat → AE} {n ce sl : Nat}
theorem AW.heap (e : ∀ i, i < n → h i = h' i) (k : AW T Q CX pc lo st h' n ce sl) : AW T Q CX pc lo st h n ce sl := by
  intro p l e1 s m args below meth c H locs ls ad kc D z A hF hC hD
  refine k p l e1 s m args below meth c H locs ls ad kc D z A hF hC ?_
  unfold DY at hD ⊢
  rw [← cW_congr e]
  exact hD
theorem AW.widen {ce' sl' : Nat} (h1 : ce ≤ ce') (h2 : sl ≤ sl') (k : AW T Q CX pc lo st h n ce' sl') : AW T Q CX pc lo st h n ce sl := by
  intro p l e1 s m args below meth c H locs ls ad kc D z A hF hC hD
  exact W.widen h1 h2 (k p l e1 s m args below meth c H locs ls ad kc D z A hF hC hD)
theorem aw_iconst {k : Int} {v : Int32} (hd : decode T.2.1 pc = .ok (.iconst k, 1)) (hv : Int32.ofInt k = v) (kk : AW T Q CX (pc + 1) lo (.int v :: st) h n ce sl) : AW T Q CX pc lo st h n ce sl := by
  intro p l e1 s m args below meth c H locs ls ad kc D z A hF hC hD
  exact lv_iconst hF.1 hF.2.1 hd hv (kk p l e1 s m args below meth c H locs ls ad kc D z A hF hC hD)
theorem aw_bipush {k : Int} {v : Int32} (hd : decode T.2.1 pc = .ok (.bipush k, 2)) (hv : (Int8.ofInt k).toInt32 = v) (kk : AW T Q CX (pc + 2) lo (.int v :: st) h n ce sl) : AW T Q CX pc lo st h n ce sl := by
  intro p l e1 s m args below meth c H locs ls ad kc D z A hF hC hD
  exact lv_bipush hF.1 hF.2.1 hd hv (kk p l e1 s m args below meth c H locs ls ad kc D z A hF hC hD)
theorem aw_sipush {k : Int} {v : Int32} (hd : decode T.2.1 pc = .ok (.sipush k, 3)) (hv : (Int16.ofInt k).toInt32 = v) (kk : AW T Q CX (pc + 3) lo (.int v :: st) h n ce sl) : AW T Q CX pc lo st h n ce sl := by
  intro p l e1 s m args below meth c H locs ls ad kc D z A hF hC hD
  exact lv_sipush hF.1 hF.2.1 hd hv (kk p l e1 s m args below meth c H locs ls ad kc D z A hF hC hD)
theorem aw_lconst {k : Fin 2} {v : Int64} (hd : decode T.2.1 pc = .ok (.lconst k, 1)) (hv : Int64.ofNat (k : Nat) = v) (kk : AW T Q CX (pc + 1) lo (.long v :: st) h n ce sl) : AW T Q CX pc lo st h n ce sl := by
  intro p l e1 s m args below meth c H locs ls ad kc D z A hF hC hD
  exact lv_lconst hF.1 hF.2.1 hd hv (kk p l e1 s m args below meth c H locs ls ad kc D z A hF hC hD)
theorem aw_ldc {index : Nat} {v : Int32} (hw : Cond.constant T.1 index v ∈ GW) (hd : decode T.2.1 pc = .ok (.ldc index, 2)) (kk : AW T Q CX (pc + 2) lo (.int v :: st) h n ce sl) : AW T Q CX pc lo st h n ce sl := by
  intro p l e1 s m args below meth c H locs ls ad kc D z A hF hC hD
  exact lv_ldc hF.1 hF.2.1 hF.2.2.2.1 (hF.2.2.2.2.1 _ hw) hd (kk p l e1 s m args below meth c H locs ls ad kc D z A hF hC hD)
theorem aw_ldc2 {index : Nat} {v : Int64} (hw : Cond.constantLong T.1 index v ∈ GW) (hd : decode T.2.1 pc = .ok (.ldc2_w index, 3)) (kk : AW T Q CX (pc + 3) lo (.long v :: st) h n ce sl) : AW T Q CX pc lo st h n ce sl := by
  intro p l e1 s m args below meth c H locs ls ad kc D z A hF hC hD
  exact lv_ldc2 hF.1 hF.2.1 hF.2.2.2.1 (hF.2.2.2.2.1 _ hw) hd (kk p l e1 s m args below meth c H locs ls ad kc D z A hF hC hD)
theorem aw_iload_n {k : Fin 4} {x : Int32} (hd : decode T.2.1 pc = .ok (.iload_n k, 1)) (hl : lo[(k : Nat)]? = some (some (.int x))) (kk : AW T Q CX (pc + 1) lo (.int x :: st) h n ce sl) : AW T Q CX pc lo st h n ce sl := by
  intro p l e1 s m args below meth c H locs ls ad kc D z A hF hC hD
  exact lv_iload_n hF.1 hF.2.1 hd rfl (hD.2.2.2.2.2.2.2.2 _ _ hl) (kk p l e1 s m args below meth c H locs ls ad kc D z A hF hC hD)
theorem aw_iload {k : Nat} {x : Int32} (hd : decode T.2.1 pc = .ok (.iload k, 2)) (hl : lo[k]? = some (some (.int x))) (kk : AW T Q CX (pc + 2) lo (.int x :: st) h n ce sl) : AW T Q CX pc lo st h n ce sl := by
  intro p l e1 s m args below meth c H locs ls ad kc D z A hF hC hD
  exact lv_iload hF.1 hF.2.1 hd (hD.2.2.2.2.2.2.2.2 _ _ hl) (kk p l e1 s m args below meth c H locs ls ad kc D z A hF hC hD)
theorem aw_lload_n {k : Fin 4} {x : Int64} (hd : decode T.2.1 pc = .ok (.lload_n k, 1)) (hl : lo[(k : Nat)]? = some (some (.long x))) (kk : AW T Q CX (pc + 1) lo (.long x :: st) h n ce sl) : AW T Q CX pc lo st h n ce sl := by
  intro p l e1 s m args below meth c H locs ls ad kc D z A hF hC hD
  exact lv_lload_n hF.1 hF.2.1 hd rfl (hD.2.2.2.2.2.2.2.2 _ _ hl) (kk p l e1 s m args below meth c H locs ls ad kc D z A hF hC hD)
theorem aw_lload {k : Nat} {x : Int64} (hd : decode T.2.1 pc = .ok (.lload k, 2)) (hl : lo[k]? = some (some (.long x))) (kk : AW T Q CX (pc + 2) lo (.long x :: st) h n ce sl) : AW T Q CX pc lo st h n ce sl := by
  intro p l e1 s m args below meth c H locs ls ad kc D z A hF hC hD
  exact lv_lload hF.1 hF.2.1 hd (hD.2.2.2.2.2.2.2.2 _ _ hl) (kk p l e1 s m args below meth c H locs ls ad kc D z A hF hC hD)
theorem aw_aload_n {k : Fin 4} {x : Nat} (hd : decode T.2.1 pc = .ok (.aload_n k, 1)) (hl : lo[(k : Nat)]? = some (some (.ref x))) (kk : AW T Q CX (pc + 1) lo (.ref x :: st) h n ce sl) : AW T Q CX pc lo st h n ce sl := by
  intro p l e1 s m args below meth c H locs ls ad kc D z A hF hC hD
  exact lv_aload_n hF.1 hF.2.1 hd rfl (hD.2.2.2.2.2.2.2.2 _ _ hl) (kk p l e1 s m args below meth c H locs ls ad kc D z A hF hC hD)
theorem aw_aload {k x : Nat} (hd : decode T.2.1 pc = .ok (.aload k, 2)) (hl : lo[k]? = some (some (.ref x))) (kk : AW T Q CX (pc + 2) lo (.ref x :: st) h n ce sl) : AW T Q CX pc lo st h n ce sl := by
  intro p l e1 s m args below meth c H locs ls ad kc D z A hF hC hD
  exact lv_aload hF.1 hF.2.1 hd (hD.2.2.2.2.2.2.2.2 _ _ hl) (kk p l e1 s m args below meth c H locs ls ad kc D z A hF hC hD)
theorem aw_aload_nN {k : Fin 4} (hd : decode T.2.1 pc = .ok (.aload_n k, 1)) (hl : lo[(k : Nat)]? = some (some .null)) (kk : AW T Q CX (pc + 1) lo (.null :: st) h n ce sl) : AW T Q CX pc lo st h n ce sl := by
  intro p l e1 s m args below meth c H locs ls ad kc D z A hF hC hD
  exact lv_aload_nN hF.1 hF.2.1 hd rfl (hD.2.2.2.2.2.2.2.2 _ _ hl) (kk p l e1 s m args below meth c H locs ls ad kc D z A hF hC hD)
theorem aw_iadd {x y : Int32} (hd : decode T.2.1 pc = .ok (.iadd, 1)) (kk : AW T Q CX (pc + 1) lo (.int (x + y) :: st) h n ce sl) : AW T Q CX pc lo (.int y :: .int x :: st) h n ce sl := by
  intro p l e1 s m args below meth c H locs ls ad kc D z A hF hC hD
  exact lv_iadd hF.1 hF.2.1 hd (kk p l e1 s m args below meth c H locs ls ad kc D z A hF hC hD)
theorem aw_isub {x y : Int32} (hd : decode T.2.1 pc = .ok (.isub, 1)) (kk : AW T Q CX (pc + 1) lo (.int (x - y) :: st) h n ce sl) : AW T Q CX pc lo (.int y :: .int x :: st) h n ce sl := by
  intro p l e1 s m args below meth c H locs ls ad kc D z A hF hC hD
  exact lv_isub hF.1 hF.2.1 hd (kk p l e1 s m args below meth c H locs ls ad kc D z A hF hC hD)
theorem aw_imul {x y : Int32} (hd : decode T.2.1 pc = .ok (.imul, 1)) (kk : AW T Q CX (pc + 1) lo (.int (x * y) :: st) h n ce sl) : AW T Q CX pc lo (.int y :: .int x :: st) h n ce sl := by
  intro p l e1 s m args below meth c H locs ls ad kc D z A hF hC hD
  exact lv_imul hF.1 hF.2.1 hd (kk p l e1 s m args below meth c H locs ls ad kc D z A hF hC hD)
theorem aw_idiv {x y : Int32} (hd : decode T.2.1 pc = .ok (.idiv, 1)) (hne : ¬ y = 0) (kk : AW T Q CX (pc + 1) lo (.int (x / y) :: st) h n ce sl) : AW T Q CX pc lo (.int y :: .int x :: st) h n ce sl := by
  intro p l e1 s m args below meth c H locs ls ad kc D z A hF hC hD
  exact lv_idiv hF.1 hF.2.1 hd hne (kk p l e1 s m args below meth c H locs ls ad kc D z A hF hC hD)
theorem aw_irem {x y : Int32} (hd : decode T.2.1 pc = .ok (.irem, 1)) (hne : ¬ y = 0) (kk : AW T Q CX (pc + 1) lo (.int (x - x / y * y) :: st) h n ce sl) : AW T Q CX pc lo (.int y :: .int x :: st) h n ce sl := by
  intro p l e1 s m args below meth c H locs ls ad kc D z A hF hC hD
  exact lv_irem hF.1 hF.2.1 hd hne (kk p l e1 s m args below meth c H locs ls ad kc D z A hF hC hD)
theorem aw_iand {x y : Int32} (hd : decode T.2.1 pc = .ok (.iand, 1)) (kk : AW T Q CX (pc + 1) lo (.int (x &&& y) :: st) h n ce sl) : AW T Q CX pc lo (.int y :: .int x :: st) h n ce sl := by
  intro p l e1 s m args below meth c H locs ls ad kc D z A hF hC hD
  exact lv_iand hF.1 hF.2.1 hd (kk p l e1 s m args below meth c H locs ls ad kc D z A hF hC hD)
theorem aw_ishr {x y : Int32} (hd : decode T.2.1 pc = .ok (.ishr, 1)) (kk : AW T Q CX (pc + 1) lo (.int (x >>> (y &&& 31)) :: st) h n ce sl) : AW T Q CX pc lo (.int y :: .int x :: st) h n ce sl := by
  intro p l e1 s m args below meth c H locs ls ad kc D z A hF hC hD
  exact lv_ishr hF.1 hF.2.1 hd (kk p l e1 s m args below meth c H locs ls ad kc D z A hF hC hD)
theorem aw_ladd {x y : Int64} (hd : decode T.2.1 pc = .ok (.ladd, 1)) (kk : AW T Q CX (pc + 1) lo (.long (x + y) :: st) h n ce sl) : AW T Q CX pc lo (.long y :: .long x :: st) h n ce sl := by
  intro p l e1 s m args below meth c H locs ls ad kc D z A hF hC hD
  exact lv_ladd hF.1 hF.2.1 hd (kk p l e1 s m args below meth c H locs ls ad kc D z A hF hC hD)
theorem aw_lsub {x y : Int64} (hd : decode T.2.1 pc = .ok (.lsub, 1)) (kk : AW T Q CX (pc + 1) lo (.long (x - y) :: st) h n ce sl) : AW T Q CX pc lo (.long y :: .long x :: st) h n ce sl := by
  intro p l e1 s m args below meth c H locs ls ad kc D z A hF hC hD
  exact lv_lsub hF.1 hF.2.1 hd (kk p l e1 s m args below meth c H locs ls ad kc D z A hF hC hD)
theorem aw_lmul {x y : Int64} (hd : decode T.2.1 pc = .ok (.lmul, 1)) (kk : AW T Q CX (pc + 1) lo (.long (x * y) :: st) h n ce sl) : AW T Q CX pc lo (.long y :: .long x :: st) h n ce sl := by
  intro p l e1 s m args below meth c H locs ls ad kc D z A hF hC hD
  exact lv_lmul hF.1 hF.2.1 hd (kk p l e1 s m args below meth c H locs ls ad kc D z A hF hC hD)
theorem aw_lcmp {x y : Int64} (hd : decode T.2.1 pc = .ok (.lcmp, 1)) (kk : AW T Q CX (pc + 1) lo (.int (lg_cmp x y) :: st) h n ce sl) : AW T Q CX pc lo (.long y :: .long x :: st) h n ce sl := by
  intro p l e1 s m args below meth c H locs ls ad kc D z A hF hC hD
  exact W.lcmp hF.1 hF.2.1 hd (kk p l e1 s m args below meth c H locs ls ad kc D z A hF hC hD)
theorem aw_i2l {x : Int32} (hd : decode T.2.1 pc = .ok (.i2l, 1)) (kk : AW T Q CX (pc + 1) lo (.long x.toInt64 :: st) h n ce sl) : AW T Q CX pc lo (.int x :: st) h n ce sl := by
  intro p l e1 s m args below meth c H locs ls ad kc D z A hF hC hD
  exact lv_i2l hF.1 hF.2.1 hd rfl (kk p l e1 s m args below meth c H locs ls ad kc D z A hF hC hD)
theorem aw_i2b {x : Int32} (hd : decode T.2.1 pc = .ok (.i2b, 1)) (kk : AW T Q CX (pc + 1) lo (.int x.toInt8.toInt32 :: st) h n ce sl) : AW T Q CX pc lo (.int x :: st) h n ce sl := by
  intro p l e1 s m args below meth c H locs ls ad kc D z A hF hC hD
  exact lv_i2b hF.1 hF.2.1 hd rfl (kk p l e1 s m args below meth c H locs ls ad kc D z A hF hC hD)
theorem cv_cat (ad : Nat → Nat) (v : Value) : (cv ad v).category = v.category := by cases v <;> rfl
theorem aw_dup {v : Value} (hd : decode T.2.1 pc = .ok (.dup, 1)) (hv : v.category = 1) (kk : AW T Q CX (pc + 1) lo (v :: v :: st) h n ce sl) : AW T Q CX pc lo (v :: st) h n ce sl := by
  intro p l e1 s m args below meth c H locs ls ad kc D z A hF hC hD
  exact lv_dup hF.1 hF.2.1 hd ((cv_cat ad v).trans hv) (kk p l e1 s m args below meth c H locs ls ad kc D z A hF hC hD)
theorem aw_pop {v : Value} (hd : decode T.2.1 pc = .ok (.pop, 1)) (hv : v.category = 1) (kk : AW T Q CX (pc + 1) lo st h n ce sl) : AW T Q CX pc lo (v :: st) h n ce sl := by
  intro p l e1 s m args below meth c H locs ls ad kc D z A hF hC hD
  exact lv_pop hF.1 hF.2.1 hd ((cv_cat ad v).trans hv) (kk p l e1 s m args below meth c H locs ls ad kc D z A hF hC hD)
theorem aw_dup_x1 {v w : Value} (hd : decode T.2.1 pc = .ok (.dup_x1, 1)) (hv : v.category = 1) (hw : w.category = 1) (kk : AW T Q CX (pc + 1) lo (v :: w :: v :: st) h n ce sl) : AW T Q CX pc lo (v :: w :: st) h n ce sl := by
  intro p l e1 s m args below meth c H locs ls ad kc D z A hF hC hD
  exact lv_dup_x1 hF.1 hF.2.1 hd ((cv_cat ad v).trans hv) ((cv_cat ad w).trans hw) (kk p l e1 s m args below meth c H locs ls ad kc D z A hF hC hD)
theorem aw_dup2 {v w : Value} (hd : decode T.2.1 pc = .ok (.dup2, 1)) (hv : v.category = 1) (hw : w.category = 1) (kk : AW T Q CX (pc + 1) lo (v :: w :: v :: w :: st) h n ce sl) : AW T Q CX pc lo (v :: w :: st) h n ce sl := by
  intro p l e1 s m args below meth c H locs ls ad kc D z A hF hC hD
  exact lv_dup2_11 hF.1 hF.2.1 hd ((cv_cat ad v).trans hv) ((cv_cat ad w).trans hw) (kk p l e1 s m args below meth c H locs ls ad kc D z A hF hC hD)
theorem aw_if_eq {x : Int32} {off : Int} (tgt : Nat) (hd : decode T.2.1 pc = .ok (.ifCond .eq off, 3)) (ht : (pc : Int) + off = (tgt : Int)) (kt : x = 0 → AW T Q CX tgt lo st h n ce sl) (kf : ¬ x = 0 → AW T Q CX (pc + 3) lo st h n ce sl) : AW T Q CX pc lo (.int x :: st) h n ce sl := by
  intro p l e1 s m args below meth c H locs ls ad kc D z A hF hC hD
  exact lv_if_eq hF.1 hF.2.1 hd ht (fun q => kt q p l e1 s m args below meth c H locs ls ad kc D z A hF hC hD) (fun q => kf q p l e1 s m args below meth c H locs ls ad kc D z A hF hC hD)
theorem aw_icmp_eq {x y : Int32} {off : Int} (tgt : Nat) (hd : decode T.2.1 pc = .ok (.if_icmp .eq off, 3)) (ht : (pc : Int) + off = (tgt : Int)) (kt : x = y → AW T Q CX tgt lo st h n ce sl) (kf : ¬ x = y → AW T Q CX (pc + 3) lo st h n ce sl) : AW T Q CX pc lo (.int y :: .int x :: st) h n ce sl := by
  intro p l e1 s m args below meth c H locs ls ad kc D z A hF hC hD
  exact lv_icmp_eq hF.1 hF.2.1 hd ht (fun q => kt q p l e1 s m args below meth c H locs ls ad kc D z A hF hC hD) (fun q => kf q p l e1 s m args below meth c H locs ls ad kc D z A hF hC hD)
theorem aw_if_ne {x : Int32} {off : Int} (tgt : Nat) (hd : decode T.2.1 pc = .ok (.ifCond .ne off, 3)) (ht : (pc : Int) + off = (tgt : Int)) (kt : ¬ x = 0 → AW T Q CX tgt lo st h n ce sl) (kf : x = 0 → AW T Q CX (pc + 3) lo st h n ce sl) : AW T Q CX pc lo (.int x :: st) h n ce sl := by
  intro p l e1 s m args below meth c H locs ls ad kc D z A hF hC hD
  exact lv_if_ne hF.1 hF.2.1 hd ht (fun q => kt q p l e1 s m args below meth c H locs ls ad kc D z A hF hC hD) (fun q => kf q p l e1 s m args below meth c H locs ls ad kc D z A hF hC hD)
theorem aw_icmp_ne {x y : Int32} {off : Int} (tgt : Nat) (hd : decode T.2.1 pc = .ok (.if_icmp .ne off, 3)) (ht : (pc : Int) + off = (tgt : Int)) (kt : ¬ x = y → AW T Q CX tgt lo st h n ce sl) (kf : x = y → AW T Q CX (pc + 3) lo st h n ce sl) : AW T Q CX pc lo (.int y :: .int x :: st) h n ce sl := by
  intro p l e1 s m args below meth c H locs ls ad kc D z A hF hC hD
  exact lv_icmp_ne hF.1 hF.2.1 hd ht (fun q => kt q p l e1 s m args below meth c H locs ls ad kc D z A hF hC hD) (fun q => kf q p l e1 s m args below meth c H locs ls ad kc D z A hF hC hD)
theorem aw_if_lt {x : Int32} {off : Int} (tgt : Nat) (hd : decode T.2.1 pc = .ok (.ifCond .lt off, 3)) (ht : (pc : Int) + off = (tgt : Int)) (kt : x < 0 → AW T Q CX tgt lo st h n ce sl) (kf : ¬ x < 0 → AW T Q CX (pc + 3) lo st h n ce sl) : AW T Q CX pc lo (.int x :: st) h n ce sl := by
  intro p l e1 s m args below meth c H locs ls ad kc D z A hF hC hD
  exact lv_if_lt hF.1 hF.2.1 hd ht (fun q => kt q p l e1 s m args below meth c H locs ls ad kc D z A hF hC hD) (fun q => kf q p l e1 s m args below meth c H locs ls ad kc D z A hF hC hD)
theorem aw_icmp_lt {x y : Int32} {off : Int} (tgt : Nat) (hd : decode T.2.1 pc = .ok (.if_icmp .lt off, 3)) (ht : (pc : Int) + off = (tgt : Int)) (kt : x < y → AW T Q CX tgt lo st h n ce sl) (kf : ¬ x < y → AW T Q CX (pc + 3) lo st h n ce sl) : AW T Q CX pc lo (.int y :: .int x :: st) h n ce sl := by
  intro p l e1 s m args below meth c H locs ls ad kc D z A hF hC hD
  exact lv_icmp_lt hF.1 hF.2.1 hd ht (fun q => kt q p l e1 s m args below meth c H locs ls ad kc D z A hF hC hD) (fun q => kf q p l e1 s m args below meth c H locs ls ad kc D z A hF hC hD)
theorem aw_if_ge {x : Int32} {off : Int} (tgt : Nat) (hd : decode T.2.1 pc = .ok (.ifCond .ge off, 3)) (ht : (pc : Int) + off = (tgt : Int)) (kt : 0 ≤ x → AW T Q CX tgt lo st h n ce sl) (kf : ¬ 0 ≤ x → AW T Q CX (pc + 3) lo st h n ce sl) : AW T Q CX pc lo (.int x :: st) h n ce sl := by
  intro p l e1 s m args below meth c H locs ls ad kc D z A hF hC hD
  exact lv_if_ge hF.1 hF.2.1 hd ht (fun q => kt q p l e1 s m args below meth c H locs ls ad kc D z A hF hC hD) (fun q => kf q p l e1 s m args below meth c H locs ls ad kc D z A hF hC hD)
theorem aw_icmp_ge {x y : Int32} {off : Int} (tgt : Nat) (hd : decode T.2.1 pc = .ok (.if_icmp .ge off, 3)) (ht : (pc : Int) + off = (tgt : Int)) (kt : y ≤ x → AW T Q CX tgt lo st h n ce sl) (kf : ¬ y ≤ x → AW T Q CX (pc + 3) lo st h n ce sl) : AW T Q CX pc lo (.int y :: .int x :: st) h n ce sl := by
  intro p l e1 s m args below meth c H locs ls ad kc D z A hF hC hD
  exact lv_icmp_ge hF.1 hF.2.1 hd ht (fun q => kt q p l e1 s m args below meth c H locs ls ad kc D z A hF hC hD) (fun q => kf q p l e1 s m args below meth c H locs ls ad kc D z A hF hC hD)
theorem aw_if_gt {x : Int32} {off : Int} (tgt : Nat) (hd : decode T.2.1 pc = .ok (.ifCond .gt off, 3)) (ht : (pc : Int) + off = (tgt : Int)) (kt : 0 < x → AW T Q CX tgt lo st h n ce sl) (kf : ¬ 0 < x → AW T Q CX (pc + 3) lo st h n ce sl) : AW T Q CX pc lo (.int x :: st) h n ce sl := by
  intro p l e1 s m args below meth c H locs ls ad kc D z A hF hC hD
  exact lv_if_gt hF.1 hF.2.1 hd ht (fun q => kt q p l e1 s m args below meth c H locs ls ad kc D z A hF hC hD) (fun q => kf q p l e1 s m args below meth c H locs ls ad kc D z A hF hC hD)
theorem aw_icmp_gt {x y : Int32} {off : Int} (tgt : Nat) (hd : decode T.2.1 pc = .ok (.if_icmp .gt off, 3)) (ht : (pc : Int) + off = (tgt : Int)) (kt : y < x → AW T Q CX tgt lo st h n ce sl) (kf : ¬ y < x → AW T Q CX (pc + 3) lo st h n ce sl) : AW T Q CX pc lo (.int y :: .int x :: st) h n ce sl := by
  intro p l e1 s m args below meth c H locs ls ad kc D z A hF hC hD
  exact lv_icmp_gt hF.1 hF.2.1 hd ht (fun q => kt q p l e1 s m args below meth c H locs ls ad kc D z A hF hC hD) (fun q => kf q p l e1 s m args below meth c H locs ls ad kc D z A hF hC hD)
theorem aw_if_le {x : Int32} {off : Int} (tgt : Nat) (hd : decode T.2.1 pc = .ok (.ifCond .le off, 3)) (ht : (pc : Int) + off = (tgt : Int)) (kt : x ≤ 0 → AW T Q CX tgt lo st h n ce sl) (kf : ¬ x ≤ 0 → AW T Q CX (pc + 3) lo st h n ce sl) : AW T Q CX pc lo (.int x :: st) h n ce sl := by
  intro p l e1 s m args below meth c H locs ls ad kc D z A hF hC hD
  exact lv_if_le hF.1 hF.2.1 hd ht (fun q => kt q p l e1 s m args below meth c H locs ls ad kc D z A hF hC hD) (fun q => kf q p l e1 s m args below meth c H locs ls ad kc D z A hF hC hD)
theorem aw_icmp_le {x y : Int32} {off : Int} (tgt : Nat) (hd : decode T.2.1 pc = .ok (.if_icmp .le off, 3)) (ht : (pc : Int) + off = (tgt : Int)) (kt : x ≤ y → AW T Q CX tgt lo st h n ce sl) (kf : ¬ x ≤ y → AW T Q CX (pc + 3) lo st h n ce sl) : AW T Q CX pc lo (.int y :: .int x :: st) h n ce sl := by
  intro p l e1 s m args below meth c H locs ls ad kc D z A hF hC hD
  exact lv_icmp_le hF.1 hF.2.1 hd ht (fun q => kt q p l e1 s m args below meth c H locs ls ad kc D z A hF hC hD) (fun q => kf q p l e1 s m args below meth c H locs ls ad kc D z A hF hC hD)
theorem aw_goto {off : Int} (tgt : Nat) (hd : decode T.2.1 pc = .ok (.goto off, 3)) (ht : (pc : Int) + off = (tgt : Int)) (kk : AW T Q CX tgt lo st h n ce sl) : AW T Q CX pc lo st h n ce sl := by
  intro p l e1 s m args below meth c H locs ls ad kc D z A hF hC hD
  exact lv_goto hF.1 hF.2.1 hd ht (kk p l e1 s m args below meth c H locs ls ad kc D z A hF hC hD)
theorem aw_ifnonnull {x : Nat} {off : Int} (tgt : Nat) (hd : decode T.2.1 pc = .ok (.ifnonnull off, 3)) (ht : (pc : Int) + off = (tgt : Int)) (kk : AW T Q CX tgt lo st h n ce sl) : AW T Q CX pc lo (.ref x :: st) h n ce sl := by
  intro p l e1 s m args below meth c H locs ls ad kc D z A hF hC hD
  exact lv_ifnonnull hF.1 hF.2.1 hd ht (kk p l e1 s m args below meth c H locs ls ad kc D z A hF hC hD)
theorem aw_ifnonnullN {off : Int} (hd : decode T.2.1 pc = .ok (.ifnonnull off, 3)) (kk : AW T Q CX (pc + 3) lo st h n ce sl) : AW T Q CX pc lo (.null :: st) h n ce sl := by
  intro p l e1 s m args below meth c H locs ls ad kc D z A hF hC hD
  exact lv_ifnonnullN hF.1 hF.2.1 hd (kk p l e1 s m args below meth c H locs ls ad kc D z A hF hC hD)
def dropL (o : Option Value) : Option Value := match o with
  | some (.long _) => none
  | some (.double _) => none
  | x => x
/-- a store of one word at i -/
def stL : List (Option Value) → Nat → Value → List (Option Value)
  | [], _, _ => []
  | _ :: l, 0, v => some v :: l
  | o :: l, 1, v => dropL o :: stL l 0 v
  | o :: l, i + 2, v => o :: stL l (i + 1) v
/-- a store of two words at i -/
def stM : List (Option Value) → Nat → Value → List (Option Value)
  | [], _, _ => []
  | [_], 0, v => [some v]
  | _ :: _ :: l, 0, v => some v :: none :: l
  | o :: l, 1, v => dropL o :: stM l 0 v
  | o :: l, i + 2, v => o :: stM l (i + 1) v
theorem dropL_some {o : Option Value} {w : Value} (h : dropL o = some w) : o = some w ∧ w.category = 1 := by
  cases o with
  | none => simp [dropL] at h
  | some v => cases v <;> simp [dropL] at h <;> subst h <;> exact ⟨rfl, rfl⟩
theorem stL_get : ∀ (lo : List (Option Value)) (i : Nat) (v : Value) (j : Nat) (w : Value), (stL lo i v)[j]? = some (some w) → (j = i ∧ w = v) ∨ (j ≠ i ∧ lo[j]? = some (some w) ∧ (j + 1 = i → w.category = 1))
  | [], i, v, j, w, h => by simp [stL] at h
  | o :: l, 0, v, j, w, h => by
    cases j with
    | zero => simp [stL] at h; exact Or.inl ⟨rfl, h.symm⟩
    | succ j => simp [stL] at h; exact Or.inr ⟨by omega, by simpa using h, by omega⟩
  | o :: l, 1, v, j, w, h => by
    cases j with
    | zero =>
      simp [stL] at h
      obtain ⟨h1, h2⟩ := dropL_some h
      exact Or.inr ⟨by omega, by simp [h1], fun _ => h2⟩
    | succ j =>
      have h1 : (stL l 0 v)[j]? = some (some w) := by simpa [stL] using h
      rcases stL_get l 0 v j w h1 with ⟨a, b⟩ | ⟨a, b, c⟩
      · exact Or.inl ⟨by omega, b⟩
      · exact Or.inr ⟨by omega, by simpa using b, fun q => c (by omega)⟩
  | o :: l, i + 2, v, j, w, h => by
    cases j with
    | zero =>
      simp [stL] at h
      exact Or.inr ⟨by omega, by simp [h], by omega⟩
    | succ j =>
      have h1 : (stL l (i + 1) v)[j]? = some (some w) := by simpa [stL] using h
      rcases stL_get l (i + 1) v j w h1 with ⟨a, b⟩ | ⟨a, b, c⟩
      · exact Or.inl ⟨by omega, b⟩
      · exact Or.inr ⟨by omega, by simpa using b, fun q => c (by omega)⟩
theorem stM_get : ∀ (lo : List (Option Value)) (i : Nat) (v : Value) (j : Nat) (w : Value), (stM lo i v)[j]? = some (some w) → (j = i ∧ w = v) ∨ (j ≠ i ∧ j ≠ i + 1 ∧ lo[j]? = some (some w) ∧ (j + 1 = i → w.category = 1))
  | [], i, v, j, w, h => by simp [stM] at h
  | [o], 0, v, j, w, h => by
    cases j with
    | zero => simp [stM] at h; exact Or.inl ⟨rfl, h.symm⟩
    | succ j => simp [stM] at h
  | o :: o2 :: l, 0, v, j, w, h => by
    cases j with
    | zero => simp [stM] at h; exact Or.inl ⟨rfl, h.symm⟩
    | succ j =>
      cases j with
      | zero => simp [stM] at h
      | succ j => simp [stM] at h; exact Or.inr ⟨by omega, by omega, by simpa using h, by omega⟩
  | o :: l, 1, v, j, w, h => by
    cases j with
    | zero =>
      simp [stM] at h
      obtain ⟨h1, h2⟩ := dropL_some h
      exact Or.inr ⟨by omega, by omega, by simp [h1], fun _ => h2⟩
    | succ j =>
      have h1 : (stM l 0 v)[j]? = some (some w) := by simpa [stM] using h
      rcases stM_get l 0 v j w h1 with ⟨a, b⟩ | ⟨a, b, c, d⟩
      · exact Or.inl ⟨by omega, b⟩
      · exact Or.inr ⟨by omega, by omega, by simpa using c, fun q => d (by omega)⟩
  | o :: l, i + 2, v, j, w, h => by
    cases j with
    | zero =>
      simp [stM] at h
      exact Or.inr ⟨by omega, by omega, by simp [h], by omega⟩
    | succ j =>
      have h1 : (stM l (i + 1) v)[j]? = some (some w) := by simpa [stM] using h
      rcases stM_get l (i + 1) v j w h1 with ⟨a, b⟩ | ⟨a, b, c, d⟩
      · exact Or.inl ⟨by omega, b⟩
      · exact Or.inr ⟨by omega, by omega, by simpa using c, fun q => d (by omega)⟩
/-- the known locals as a list of pairs -/
def prs (ad : Nat → Nat) (lo : List (Option Value)) : List (Nat × Value) := (List.range lo.length).filterMap (fun i => match lo[i]? with
  | some (some v) => some (i, cv ad v)
  | _ => none)
theorem prs_mem {ad : Nat → Nat} {lo : List (Option Value)} {i : Nat} {v : Value} (h : lo[i]? = some (some v)) : (i, cv ad v) ∈ prs ad lo := by
  refine List.mem_filterMap.mpr ⟨i, List.mem_range.mpr (List.getElem?_eq_some_iff.mp h).1, ?_⟩
  rw [h]
theorem prs_of {ad : Nat → Nat} {lo : List (Option Value)} {q : Nat × Value} (h : q ∈ prs ad lo) : ∃ v, lo[q.1]? = some (some v) ∧ q.2 = cv ad v := by
  obtain ⟨i, -, hi⟩ := List.mem_filterMap.mp h
  cases hl : lo[i]? with
  | none => rw [hl] at hi; simp at hi
  | some o => cases o with
    | none => rw [hl] at hi; simp at hi
    | some v => rw [hl] at hi; simp at hi; subst hi; exact ⟨v, hl, rfl⟩
theorem lvh_has {ls : Array Slot} {nL : Nat} {ad : Nat → Nat} {lo : List (Option Value)} (h : lvh ls nL ad lo) : lv_has ls nL (prs ad lo) := ⟨h.1, h.2.1, fun q hq => by
  obtain ⟨v, h1, h2⟩ := prs_of hq
  rw [h2]
  exact h.2.2 _ _ h1⟩
theorem lvh_st {ls' : Array Slot} {nL : Nat} {ad : Nat → Nat} {lo lo' : List (Option Value)} {i : Nat} {v : Value} (hl : stL lo i v = lo')
    (h : lv_has ls' nL ((i, cv ad v) :: (prs ad lo).filter (fun q => !(q.1 == i) && !(q.1 + 1 == i && q.2.category == 2)))) : lvh ls' nL ad lo' := by
  refine ⟨h.1, h.2.1, fun j w hj => ?_⟩
  rw [← hl] at hj
  rcases stL_get lo i v j w hj with ⟨a, b⟩ | ⟨a, b, c⟩
  · subst a; subst b
    exact h.2.2 (j, cv ad w) List.mem_cons_self
  · refine h.2.2 (j, cv ad w) (List.mem_cons_of_mem _ (List.mem_filter.mpr ⟨prs_mem b, ?_⟩))
    by_cases e : j + 1 = i
    · have hc := c e
      simp [a, cv_cat, hc]
    · simp [a, e]
theorem lvh_sm {ls' : Array Slot} {nL : Nat} {ad : Nat → Nat} {lo lo' : List (Option Value)} {i : Nat} {v : Value} (hl : stM lo i v = lo')
    (h : lv_has ls' nL ((i, cv ad v) :: (prs ad lo).filter (fun q => !(q.1 == i) && (!(q.1 == i + 1) && !(q.1 + 1 == i && q.2.category == 2))))) : lvh ls' nL ad lo' := by
  refine ⟨h.1, h.2.1, fun j w hj => ?_⟩
  rw [← hl] at hj
  rcases stM_get lo i v j w hj with ⟨a, b⟩ | ⟨a, b, c, d⟩
  · subst a; subst b
    exact h.2.2 (j, cv ad w) List.mem_cons_self
  · refine h.2.2 (j, cv ad w) (List.mem_cons_of_mem _ (List.mem_filter.mpr ⟨prs_mem c, ?_⟩))
    by_cases e : j + 1 = i
    · have hc := d e
      simp [a, b, cv_cat, hc]
    · simp [a, b, e]
theorem dy_lo {s : State} {H : Heap} {locs : List Loc} {ls ls' : Array Slot} {ad : Nat → Nat} {kc : Nat → ClassId} {D : va_G} {z : (Nat → Nat) × Nat} {A : Nat → Prop} (hD : DY T s H locs ls ad kc D z A lo h n) (hl : lvh ls' T.2.2.1 ad lo') : DY T s H locs ls' ad kc D z A lo' h n := ⟨hD.1, hD.2.1, hD.2.2.1, hD.2.2.2.1, hD.2.2.2.2.1, hD.2.2.2.2.2.1, hl⟩
theorem aw_lo (e : ∀ (i : Nat) (v : Value), lo'[i]? = some (some v) → lo[i]? = some (some v)) (k : AW T Q CX pc lo' st h n ce sl) : AW T Q CX pc lo st h n ce sl := by
  intro p l e1 s m args below meth c H locs ls ad kc D z A hF hC hD
  exact k p l e1 s m args below meth c H locs ls ad kc D z A hF hC (dy_lo hD ⟨hD.2.2.2.2.2.2.1, hD.2.2.2.2.2.2.2.1, fun i v hi => hD.2.2.2.2.2.2.2.2 i v (e i v hi)⟩)
theorem aw_istore_n {k : Fin 4} {x : Int32} (hd : decode T.2.1 pc = .ok (.istore_n k, 1)) (hn : (k : Nat) < T.2.2.1) (hl : stL lo (k : Nat) (.int x) = lo') (kk : AW T Q CX (pc + 1) lo' st h n ce sl) : AW T Q CX pc lo (.int x :: st) h n ce sl := by
  intro p l e1 s m args below meth c H locs ls ad kc D z A hF hC hD
  exact lv_istore_n hF.1 hF.2.1 hd rfl (lvh_has hD.2.2.2.2.2.2) hn rfl (fun ls' hls => kk p l e1 s m args below meth c H locs ls' ad kc D z A hF hC (dy_lo hD (lvh_st hl hls)))
theorem aw_istore {k : Nat} {x : Int32} (hd : decode T.2.1 pc = .ok (.istore k, 2)) (hn : k < T.2.2.1) (hl : stL lo k (.int x) = lo') (kk : AW T Q CX (pc + 2) lo' st h n ce sl) : AW T Q CX pc lo (.int x :: st) h n ce sl := by
  intro p l e1 s m args below meth c H locs ls ad kc D z A hF hC hD
  exact lv_istore hF.1 hF.2.1 hd (lvh_has hD.2.2.2.2.2.2) hn rfl (fun ls' hls => kk p l e1 s m args below meth c H locs ls' ad kc D z A hF hC (dy_lo hD (lvh_st hl hls)))
theorem aw_astore_n {k : Fin 4} {x : Nat} (hd : decode T.2.1 pc = .ok (.astore_n k, 1)) (hn : (k : Nat) < T.2.2.1) (hl : stL lo (k : Nat) (.ref x) = lo') (kk : AW T Q CX (pc + 1) lo' st h n ce sl) : AW T Q CX pc lo (.ref x :: st) h n ce sl := by
  intro p l e1 s m args below meth c H locs ls ad kc D z A hF hC hD
  exact lv_astore_n hF.1 hF.2.1 hd rfl (lvh_has hD.2.2.2.2.2.2) hn rfl (fun ls' hls => kk p l e1 s m args below meth c H locs ls' ad kc D z A hF hC (dy_lo hD (lvh_st hl hls)))
theorem aw_astore {k x : Nat} (hd : decode T.2.1 pc = .ok (.astore k, 2)) (hn : k < T.2.2.1) (hl : stL lo k (.ref x) = lo') (kk : AW T Q CX (pc + 2) lo' st h n ce sl) : AW T Q CX pc lo (.ref x :: st) h n ce sl := by
  intro p l e1 s m args below meth c H locs ls ad kc D z A hF hC hD
  exact lv_astore hF.1 hF.2.1 hd (lvh_has hD.2.2.2.2.2.2) hn rfl (fun ls' hls => kk p l e1 s m args below meth c H locs ls' ad kc D z A hF hC (dy_lo hD (lvh_st hl hls)))
theorem aw_astore_nN {k : Fin 4} (hd : decode T.2.1 pc = .ok (.astore_n k, 1)) (hn : (k : Nat) < T.2.2.1) (hl : stL lo (k : Nat) .null = lo') (kk : AW T Q CX (pc + 1) lo' st h n ce sl) : AW T Q CX pc lo (.null :: st) h n ce sl := by
  intro p l e1 s m args below meth c H locs ls ad kc D z A hF hC hD
  exact lv_astore_nN hF.1 hF.2.1 hd rfl (lvh_has hD.2.2.2.2.2.2) hn rfl (fun ls' hls => kk p l e1 s m args below meth c H locs ls' ad kc D z A hF hC (dy_lo hD (lvh_st hl hls)))
theorem aw_lstore_n {k : Fin 4} {x : Int64} (hd : decode T.2.1 pc = .ok (.lstore_n k, 1)) (hn : (k : Nat) + 1 < T.2.2.1) (hl : stM lo (k : Nat) (.long x) = lo') (kk : AW T Q CX (pc + 1) lo' st h n ce sl) : AW T Q CX pc lo (.long x :: st) h n ce sl := by
  intro p l e1 s m args below meth c H locs ls ad kc D z A hF hC hD
  exact lv_lstore_n hF.1 hF.2.1 hd rfl (lvh_has hD.2.2.2.2.2.2) hn rfl (fun ls' hls => kk p l e1 s m args below meth c H locs ls' ad kc D z A hF hC (dy_lo hD (lvh_sm hl hls)))
theorem aw_lstore {k : Nat} {x : Int64} (hd : decode T.2.1 pc = .ok (.lstore k, 2)) (hn : k + 1 < T.2.2.1) (hl : stM lo k (.long x) = lo') (kk : AW T Q CX (pc + 2) lo' st h n ce sl) : AW T Q CX pc lo (.long x :: st) h n ce sl := by
  intro p l e1 s m args below meth c H locs ls ad kc D z A hF hC hD
  exact lv_lstore hF.1 hF.2.1 hd (lvh_has hD.2.2.2.2.2.2) hn rfl (fun ls' hls => kk p l e1 s m args below meth c H locs ls' ad kc D z A hF hC (dy_lo hD (lvh_sm hl hls)))
theorem aw_iinc {i : Nat} {d : Int} {x : Int32} (hd : decode T.2.1 pc = .ok (.iinc i d, 3)) (hx : lo[i]? = some (some (.int x))) (hn : i < T.2.2.1) (hl : stL lo i (.int (x + Int32.ofInt d)) = lo') (kk : AW T Q CX (pc + 3) lo' st h n ce sl) : AW T Q CX pc lo st h n ce sl := by
  intro p l e1 s m args below meth c H locs ls ad kc D z A hF hC hD
  obtain ⟨k, hk⟩ := List.getElem?_of_mem (prs_mem (ad := ad) hx)
  exact lv_iinc (k := k) hF.1 hF.2.1 hd (lvh_has hD.2.2.2.2.2.2) hk rfl hn rfl (fun ls' hls => kk p l e1 s m args below meth c H locs ls' ad kc D z A hF hC (dy_lo hD (lvh_st hl hls)))
/-- a field by the place k of its class ci, as the class own reaches it at its entry index -/
def FL (own : String) (index ci k : Nat) : Prop := ∃ (C : String) (TT : u_T) (N : Nat), vwCl[ci]? = some (C, TT, N) ∧ k < N ∧ (∀ w ∈ u_ws C TT N, w ∈ GW) ∧ (Cond.fieldLink own index (TT k).1 (TT k).2.1 (TT k).2.2.1 ∈ GW ∨ ∃ host, Cond.fieldLinkNest own index (TT k).1 (TT k).2.1 (TT k).2.2.1 host ∈ GW)
/-- a field that own may write -/
def FP (own : String) (index ci k : Nat) (ty : FieldType) (ini : Bool) : Prop := ∃ (C : String) (TT : u_T) (N : Nat) (ty0 : Nat → FieldType), vwCl[ci]? = some (C, TT, N) ∧ k < N ∧ (∀ w ∈ u_ws C TT N, w ∈ GW) ∧
  (∀ k, k < N → parseFieldDescriptor (TT k).2.2.1 = some (ty0 k)) ∧ (∀ a, a < N → ∀ b, b < N → a ≠ b → (TT a).2.1 ≠ (TT b).2.1) ∧ parseFieldDescriptor (TT k).2.2.1 = some ty ∧
  ((Cond.fieldLink own index (TT k).1 (TT k).2.1 (TT k).2.2.1 ∈ GW ∧ (TT k).2.2.2 = false) ∨ ((∃ host, Cond.fieldLinkNest own index (TT k).1 (TT k).2.1 (TT k).2.2.1 host ∈ GW) ∧ (TT k).2.2.2 = false) ∨ (Cond.fieldLink own index (TT k).1 (TT k).2.1 (TT k).2.2.1 ∈ GW ∧ (TT k).2.2.2 = true ∧ ini = true ∧ (TT k).1 = own))
theorem aw_get {i ci index k : Nat} {fs : List Value} {v : Value} (hL : FL T.1 index ci k) (hd : decode T.2.1 pc = .ok (.getfield index, 3)) (he : h i = .inr (ci, fs)) (hi : i < n) (hv : fs[k]? = some v) (kk : AW T Q CX (pc + 3) lo (v :: st) h n ce sl) : AW T Q CX pc lo (.ref i :: st) h n ce sl := by
  intro p l e1 s m args below meth c H locs ls ad kc D z A hF hC hD
  obtain ⟨C, TT, N, hc, hk, hin, hw | ⟨host, hw⟩⟩ := hL
  · exact va_get (D := D) (cl := vwCl) (tys := tysOf kc) (ws := cW ad kc h n) (v := cv ad v) hF.1 hF.2.1 hF.2.2.2.2.1 hin hF.2.2.2.1 hD.1 hD.2.1 i (cW_getE hi he rfl) hc k hk (hF.2.2.2.2.1 _ hw) (fun _ h9 => h9) (by rw [List.getElem?_map, hv]; rfl) hd (kk p l e1 s m args below meth c H locs ls ad kc D z A hF hC hD)
  · exact va_getN (D := D) (cl := vwCl) (tys := tysOf kc) (ws := cW ad kc h n) (v := cv ad v) hF.1 hF.2.1 hF.2.2.2.2.1 hin hF.2.2.2.1 hD.1 hD.2.1 i (cW_getE hi he rfl) hc k hk (hF.2.2.2.2.1 _ hw) (fun _ h9 => h9) (by rw [List.getElem?_map, hv]; rfl) hd (kk p l e1 s m args below meth c H locs ls ad kc D z A hF hC hD)
theorem DY.put {s : State} {H H1 : Heap} {locs locs1 : List Loc} {ls : Array Slot} {ad : Nat → Nat} {kc : Nat → ClassId} {D : va_G} {z : (Nat → Nat) × Nat} {A : Nat → Prop} {i : Nat} {e : AE} {e' : va_E} (hD : DY T s H locs ls ad kc D z A lo h n) (hi : i < n) (hh : hset h i e = h') (he : cE ad kc e = e') (hP1 : va_P D vwCl ((cW ad kc h n).set i (ad i, e')) H1) (hD1 : va_D A ((cW ad kc h n).set i (ad i, e'))) (hS1 : va_S A s.heap H1 locs1) : DY T s H1 locs1 ls ad kc D z A lo h' n := by
  subst he
  rw [cW_set hi, hh] at hP1 hD1
  exact ⟨hD.1, hP1, hD1, hS1, hD.2.2.2.2.1, hD.2.2.2.2.2.1, hD.2.2.2.2.2.2⟩
theorem aw_put {i ci index k : Nat} {ty : FieldType} {fs : List Value} {v : Value} (hL : FP T.1 index ci k ty T.2.2.2.2.2) (hd : decode T.2.1 pc = .ok (.putfield index, 3)) (he : h i = .inr (ci, fs)) (hi : i < n) (hl : k < fs.length) (hty : ∀ ad : Nat → Nat, narrow ty (cv ad v) = cv ad v ∧ fits ty (cv ad v) = true) (hh : hset h i (.inr (ci, fs.set k v)) = h') (kk : AW T Q CX (pc + 3) lo st h' n ce sl) : AW T Q CX pc lo (v :: .ref i :: st) h n ce sl := by
  intro p l e1 s m args below meth c H locs ls ad kc D z A hF hC hD
  obtain ⟨C, TT, N, ty0, hc, hk, hin, h0, hnm, hpd, ⟨hw, hf⟩ | ⟨⟨host, hw⟩, hf⟩ | ⟨hw, hf, hini, hdec⟩⟩ := hL
  · exact va_put (D := D) (cl := vwCl) (tys := tysOf kc) (ws := cW ad kc h n) (v := cv ad v) hF.1 hF.2.1 hF.2.2.2.2.1 hin ty0 h0 hnm hF.2.2.2.1 hD.1 hD.2.1 hD.2.2.1 hD.2.2.2.1 i (cW_getE hi he rfl) hc k hk (hF.2.2.2.2.1 _ hw) (fun _ h9 => h9) hf hpd (hty ad).1 (hty ad).2 (by rw [List.length_map]; exact hl) hd
      (fun H1 locs1 hP1 hD1 hS1 => kk p l e1 s m args below meth c H1 locs1 ls ad kc D z A hF hC (hD.put hi hh (by simp [cE, List.map_set]) hP1 hD1 hS1))
  · exact va_putN (D := D) (cl := vwCl) (tys := tysOf kc) (ws := cW ad kc h n) (v := cv ad v) hF.1 hF.2.1 hF.2.2.2.2.1 hin ty0 h0 hnm hF.2.2.2.1 hD.1 hD.2.1 hD.2.2.1 hD.2.2.2.1 i (cW_getE hi he rfl) hc k hk (hF.2.2.2.2.1 _ hw) (fun _ h9 => h9) hf hpd (hty ad).1 (hty ad).2 (by rw [List.length_map]; exact hl) hd
      (fun H1 locs1 hP1 hD1 hS1 => kk p l e1 s m args below meth c H1 locs1 ls ad kc D z A hF hC (hD.put hi hh (by simp [cE, List.map_set]) hP1 hD1 hS1))
  · exact va_putF (D := D) (cl := vwCl) (tys := tysOf kc) (ws := cW ad kc h n) (v := cv ad v) hF.1 hF.2.1 hF.2.2.2.2.1 hin ty0 h0 hnm hF.2.2.2.1 hD.1 hD.2.1 hD.2.2.1 hD.2.2.2.1 i (cW_getE hi he rfl) hc k hk (hF.2.2.2.2.1 _ hw) (fun _ h9 => h9) hf (hF.2.2.2.2.2.2.2.2.2.2 hini) hdec hpd (hty ad).1 (hty ad).2 (by rw [List.length_map]; exact hl) hd
      (fun H1 locs1 hP1 hD1 hS1 => kk p l e1 s m args below meth c H1 locs1 ls ad kc D z A hF hC (hD.put hi hh (by simp [cE, List.map_set]) hP1 hD1 hS1))
theorem aw_iald {i len : Nat} {f : Nat → Int32} {j : Int32} (hd : decode T.2.1 pc = .ok (.iaload, 1)) (he : h i = .inl (0, len, .inl f)) (hi : i < n) (hj : vp_in j len) (kk : AW T Q CX (pc + 1) lo (.int (f j.toNatClampNeg) :: st) h n ce sl) : AW T Q CX pc lo (.int j :: .ref i :: st) h n ce sl := by
  intro p l e1 s m args below meth c H locs ls ad kc D z A hF hC hD
  exact va_iald hF.1 hF.2.1 hD.1 hD.2.1 i 0 (cW_getE hi he rfl) rfl hj hd (kk p l e1 s m args below meth c H locs ls ad kc D z A hF hC hD)
theorem aw_bald {i len : Nat} {f : Nat → Int32} {j : Int32} (hd : decode T.2.1 pc = .ok (.baload, 1)) (he : h i = .inl (1, len, .inl f)) (hi : i < n) (hj : vp_in j len) (kk : AW T Q CX (pc + 1) lo (.int (f j.toNatClampNeg) :: st) h n ce sl) : AW T Q CX pc lo (.int j :: .ref i :: st) h n ce sl := by
  intro p l e1 s m args below meth c H locs ls ad kc D z A hF hC hD
  exact va_bald hF.1 hF.2.1 hD.1 hD.2.1 i 1 (cW_getE hi he rfl) rfl hj hd (kk p l e1 s m args below meth c H locs ls ad kc D z A hF hC hD)
theorem aw_zald {i len : Nat} {f : Nat → Int32} {j : Int32} (hd : decode T.2.1 pc = .ok (.baload, 1)) (he : h i = .inl (3, len, .inl f)) (hi : i < n) (hj : vp_in j len) (kk : AW T Q CX (pc + 1) lo (.int (f j.toNatClampNeg) :: st) h n ce sl) : AW T Q CX pc lo (.int j :: .ref i :: st) h n ce sl := by
  intro p l e1 s m args below meth c H locs ls ad kc D z A hF hC hD
  exact va_zald hF.1 hF.2.1 hD.1 hD.2.1 i 3 (cW_getE hi he rfl) rfl hj hd (kk p l e1 s m args below meth c H locs ls ad kc D z A hF hC hD)
theorem aw_lald {i len : Nat} {f : Nat → Int64} {j : Int32} (hd : decode T.2.1 pc = .ok (.laload, 1)) (he : h i = .inl (2, len, .inr (.inl f))) (hi : i < n) (hj : vp_in j len) (kk : AW T Q CX (pc + 1) lo (.long (f j.toNatClampNeg) :: st) h n ce sl) : AW T Q CX pc lo (.int j :: .ref i :: st) h n ce sl := by
  intro p l e1 s m args below meth c H locs ls ad kc D z A hF hC hD
  exact va_lald hF.1 hF.2.1 hD.1 hD.2.1 i 2 (cW_getE hi he rfl) rfl hj hd (kk p l e1 s m args below meth c H locs ls ad kc D z A hF hC hD)
theorem cv_rf (ad : Nat → Nat) (r : Option Nat) : cv ad (va_rf r) = va_rf (r.map ad) := by cases r <;> rfl
theorem aw_aald {i len : Nat} {f : Nat → Option Nat} {j : Int32} (hd : decode T.2.1 pc = .ok (.aaload, 1)) (he : h i = .inl (4, len, .inr (.inr (.inr (.inr f))))) (hi : i < n) (hj : vp_in j len) (kk : AW T Q CX (pc + 1) lo (va_rf (f j.toNatClampNeg) :: st) h n ce sl) : AW T Q CX pc lo (.int j :: .ref i :: st) h n ce sl := by
  intro p l e1 s m args below meth c H locs ls ad kc D z A hF hC hD
  have k1 := kk p l e1 s m args below meth c H locs ls ad kc D z A hF hC hD
  rw [List.map_cons, cv_rf] at k1
  exact va_aldq hF.1 hF.2.1 hD.1 hD.2.1 i 4 (cW_getE hi he rfl) rfl hj hd k1
theorem aw_alen {i len k : Nat} {x : (Nat → Int32) ⊕ (Nat → Int64) ⊕ (Nat → UInt32) ⊕ (Nat → UInt64) ⊕ (Nat → Option Nat)} {v : Int32} (hd : decode T.2.1 pc = .ok (.arraylength, 1)) (he : h i = .inl (k, len, x)) (hi : i < n) (hk : k < 5) (hv : Int32.ofNat len = v) (kk : AW T Q CX (pc + 1) lo (.int v :: st) h n ce sl) : AW T Q CX pc lo (.ref i :: st) h n ce sl := by
  intro p l e1 s m args below meth c H locs ls ad kc D z A hF hC hD
  have h1 : ∃ y, cvA ad (len, x) = (len, y) := by
    rcases x with f | f | f | f | f <;> exact ⟨_, rfl⟩
  obtain ⟨y, hy⟩ := h1
  have h2 : ∃ ty, (tysOf kc)[k]? = some (kc k, ty) := by
    rcases (show k = 0 ∨ k = 1 ∨ k = 2 ∨ k = 3 ∨ k = 4 by omega) with rfl | rfl | rfl | rfl | rfl <;> exact ⟨_, rfl⟩
  obtain ⟨ty, h2⟩ := h2
  exact va_alen hF.1 hF.2.1 hD.1 hD.2.1 i k (x := (len, y)) (cW_getE hi he (by simp [cE, hy])) h2 hv hd (kk p l e1 s m args below meth c H locs ls ad kc D z A hF hC hD)
theorem aw_iast {i len : Nat} {f : Nat → Int32} {j x : Int32} (hd : decode T.2.1 pc = .ok (.iastore, 1)) (he : h i = .inl (0, len, .inl f)) (hi : i < n) (hj : vp_in j len) (hh : hset h i (.inl (0, len, .inl (upd f j.toNatClampNeg x))) = h') (kk : AW T Q CX (pc + 1) lo st h' n ce sl) : AW T Q CX pc lo (.int x :: .int j :: .ref i :: st) h n ce sl := by
  intro p l e1 s m args below meth c H locs ls ad kc D z A hF hC hD
  exact va_iast hF.1 hF.2.1 hD.1 hD.2.1 hD.2.2.1 hD.2.2.2.1 i 0 (cW_getE hi he rfl) rfl hj hd (fun H1 locs1 hP1 hD1 hS1 => kk p l e1 s m args below meth c H1 locs1 ls ad kc D z A hF hC (hD.put hi hh rfl hP1 hD1 hS1))
theorem aw_bast {i len : Nat} {f : Nat → Int32} {j x : Int32} (hd : decode T.2.1 pc = .ok (.bastore, 1)) (he : h i = .inl (1, len, .inl f)) (hi : i < n) (hj : vp_in j len) (hh : hset h i (.inl (1, len, .inl (upd f j.toNatClampNeg (vp_nar .byte x)))) = h') (kk : AW T Q CX (pc + 1) lo st h' n ce sl) : AW T Q CX pc lo (.int x :: .int j :: .ref i :: st) h n ce sl := by
  intro p l e1 s m args below meth c H locs ls ad kc D z A hF hC hD
  exact va_bast hF.1 hF.2.1 hD.1 hD.2.1 hD.2.2.1 hD.2.2.2.1 i 1 (cW_getE hi he rfl) rfl hj hd (fun H1 locs1 hP1 hD1 hS1 => kk p l e1 s m args below meth c H1 locs1 ls ad kc D z A hF hC (hD.put hi hh rfl hP1 hD1 hS1))
theorem aw_zast {i len : Nat} {f : Nat → Int32} {j x : Int32} (hd : decode T.2.1 pc = .ok (.bastore, 1)) (he : h i = .inl (3, len, .inl f)) (hi : i < n) (hj : vp_in j len) (hh : hset h i (.inl (3, len, .inl (upd f j.toNatClampNeg (vp_nar .boolean x)))) = h') (kk : AW T Q CX (pc + 1) lo st h' n ce sl) : AW T Q CX pc lo (.int x :: .int j :: .ref i :: st) h n ce sl := by
  intro p l e1 s m args below meth c H locs ls ad kc D z A hF hC hD
  exact va_zast hF.1 hF.2.1 hD.1 hD.2.1 hD.2.2.1 hD.2.2.2.1 i 3 (cW_getE hi he rfl) rfl hj hd (fun H1 locs1 hP1 hD1 hS1 => kk p l e1 s m args below meth c H1 locs1 ls ad kc D z A hF hC (hD.put hi hh rfl hP1 hD1 hS1))
theorem aw_last {i len : Nat} {f : Nat → Int64} {j : Int32} {x : Int64} (hd : decode T.2.1 pc = .ok (.lastore, 1)) (he : h i = .inl (2, len, .inr (.inl f))) (hi : i < n) (hj : vp_in j len) (hh : hset h i (.inl (2, len, .inr (.inl (vp_updL f j.toNatClampNeg x)))) = h') (kk : AW T Q CX (pc + 1) lo st h' n ce sl) : AW T Q CX pc lo (.long x :: .int j :: .ref i :: st) h n ce sl := by
  intro p l e1 s m args below meth c H locs ls ad kc D z A hF hC hD
  exact va_last hF.1 hF.2.1 hD.1 hD.2.1 hD.2.2.1 hD.2.2.2.1 i 2 (cW_getE hi he rfl) rfl hj hd (fun H1 locs1 hP1 hD1 hS1 => kk p l e1 s m args below meth c H1 locs1 ls ad kc D z A hF hC (hD.put hi hh rfl hP1 hD1 hS1))
/-- the n entries h stand in t's heap -/
def AWd (kc : Nat → ClassId) (D : va_G) (z : (Nat → Nat) × Nat) (A : Nat → Prop) (ad : Nat → Nat) (h : Nat → AE) (n : Nat) (t : State) : Prop :=
  va_P D vwCl (cW ad kc h n) t.heap ∧ va_K D vwCl (tysOf kc) t ∧ va_D A (cW ad kc h n) ∧ (∀ i, (i < z.2 ∨ n ≤ i) → ad i = z.1 i) ∧ (z.2 ≤ n ∧ n ≤ 900000)
def AQc (Po : APost) (kc : Nat → ClassId) (D : va_G) (z : (Nat → Nat) × Nat) (A : Nat → Prop) : Array Value → State → Outcome → State → Prop := fun _ s o t =>
  (∃ (v : Option Value) (h : Nat → AE) (n : Nat) (ad : Nat → Nat), o = .returned (v.map (cv ad)) ∧ Po (.inl v) h n ∧ AWd kc D z A ad h n t) ∧ va_F A s t
def AXc (Po : APost) (kc : Nat → ClassId) (D : va_G) (z : (Nat → Nat) × Nat) (A : Nat → Prop) : String → State → State → Prop := fun E s t =>
  (∃ (h : Nat → AE) (n : Nat) (ad : Nat → Nat), Po (.inr E) h n ∧ AWd kc D z A ad h n t) ∧ va_F A s t
/-- a method's own end -/
def AQm (T : ATy) (Po : APost) : AQ := fun below args s kc D z A => vx_MQ below (AQc Po kc D z A) (AXc Po kc D z A) args s T.2.2.2.2.1.cells T.2.2.2.2.1.slots A
/-- what a call asks of its start -/
def APc (av : List Value) (h : Nat → AE) (n : Nat) (ad : Nat → Nat) (kc : Nat → ClassId) (D : va_G) (sz : Nat) : Array Value → State → Prop :=
  va_Pc (av.map (cv ad)) (fun U => U.heap.size = sz ∧ n ≤ 900000 ∧ va_K D vwCl (tysOf kc) U ∧ va_P D vwCl (cW ad kc h n) U.heap ∧ va_D (fun _ => True) (cW ad kc h n) ∧ EV (fun k => ad (900000 + k)) (va_A (cW ad kc h n) sz) U U.heap)
/-- a method's CONTRACT: called with av over the n entries h it ends as Po says -/
def AMet (T : ATy) (y : MethodName) (ws : List Cond) (av : List Value) (h : Nat → AE) (n : Nat) (Po : APost) : Prop :=
  ∀ (l : Launch), l.stackTraces = false → ∀ (ad : Nat → Nat) (kc : Nat → ClassId) (D : va_G) (sz : Nat),
    vx_Met l y ws T.2.2.2.2.1 (APc av h n ad kc D sz) (AQc Po kc D (ad, n) (va_A (cW ad kc h n) sz)) (AXc Po kc D (ad, n) (va_A (cW ad kc h n) sz)) T.2.2.2.2.1.cells T.2.2.2.2.1.slots (va_A (cW ad kc h n) sz)
theorem AMet.mono {y : MethodName} {ws : List Cond} {av : List Value} {Po Po' : APost} (hp : ∀ o h n, Po o h n → Po' o h n) (hM : AMet T y ws av h n Po) : AMet T y ws av h n Po' := by
  intro l hl ad kc D sz p e h1 h2 h3 s m args below h4 h5 h6 h7
  obtain ⟨k, o, a1, a2, a3, a4⟩ := hM l hl ad kc D sz p e h1 h2 h3 s m args below h4 h5 h6 h7
  refine ⟨k, o, a1, a2, a3, ?_⟩
  rcases a4 with ⟨⟨⟨v, h', n', ad', b1, b2, b3⟩, b4⟩, b5⟩ | ⟨q, b1, E, ce, L, ⟨⟨h', n', ad', b2, b3⟩, b4⟩, b5⟩
  · exact Or.inl ⟨⟨⟨v, h', n', ad', b1, hp _ _ _ b2, b3⟩, b4⟩, b5⟩
  · exact Or.inr ⟨q, b1, E, ce, L, ⟨⟨h', n', ad', hp _ _ _ b2, b3⟩, b4⟩, b5⟩
theorem dy_awd {s t : State} {H : Heap} {locs : List Loc} {ls : Array Slot} {ad : Nat → Nat} {kc : Nat → ClassId} {D : va_G} {z : (Nat → Nat) × Nat} {A : Nat → Prop} (hD : DY T s H locs ls ad kc D z A lo h n) (ht : t.heap = H) (hv : s.vm.Alike t.vm) : AWd kc D z A ad h n t :=
  ⟨by rw [ht]; exact hD.2.1, va_K.moved hv hD.1, hD.2.2.1, hD.2.2.2.2.1, hD.2.2.2.2.2.1⟩
theorem aw_iret {Po : APost} {v : Int32} (hr : T.2.2.2.1 = some .int) (hd : decode T.2.1 pc = .ok (.ireturn, 1)) (hce : ce ≤ T.2.2.2.2.1.cells) (hsl : sl ≤ T.2.2.2.2.1.slots) (hp : Po (.inl (some (.int v))) h n) : AW T (AQm T Po) CX pc lo [.int v] h n ce sl := by
  intro p l e1 s m args below meth c H locs ls ad kc D z A hF hC hD
  refine W.widen hce hsl (vx_ret (W.iret hF.1 hF.2.1 (hF.2.2.2.2.2.2.1.trans hr) (fun t ht hW => ?_) hD.2.2.2.1.2.2 hd (hlocks := hF.2.2.2.2.2.1)))
  exact ⟨⟨some (.int v), h, n, ad, rfl, hp, dy_awd hD ht hW.alike⟩, hD.2.2.2.1.F ht⟩
theorem aw_zret {Po : APost} {v : Int32} (hr : T.2.2.2.1 = some .boolean) (hd : decode T.2.1 pc = .ok (.ireturn, 1)) (hn : narrow .boolean (.int v) = .int v) (hce : ce ≤ T.2.2.2.2.1.cells) (hsl : sl ≤ T.2.2.2.2.1.slots) (hp : Po (.inl (some (.int v))) h n) : AW T (AQm T Po) CX pc lo [.int v] h n ce sl := by
  intro p l e1 s m args below meth c H locs ls ad kc D z A hF hC hD
  refine W.widen hce hsl (vx_ret (W.zret hF.1 hF.2.1 (hF.2.2.2.2.2.2.1.trans hr) hn (fun t ht hW => ?_) hD.2.2.2.1.2.2 hd (hlocks := hF.2.2.2.2.2.1)))
  exact ⟨⟨some (.int v), h, n, ad, rfl, hp, dy_awd hD ht hW.alike⟩, hD.2.2.2.1.F ht⟩
theorem aw_lret {Po : APost} {v : Int64} (hr : T.2.2.2.1 = some .long) (hd : decode T.2.1 pc = .ok (.lreturn, 1)) (hce : ce ≤ T.2.2.2.2.1.cells) (hsl : sl ≤ T.2.2.2.2.1.slots) (hp : Po (.inl (some (.long v))) h n) : AW T (AQm T Po) CX pc lo [.long v] h n ce sl := by
  intro p l e1 s m args below meth c H locs ls ad kc D z A hF hC hD
  refine W.widen hce hsl (vx_ret (W.lret hF.1 hF.2.1 (hF.2.2.2.2.2.2.1.trans hr) (fun t ht hW => ?_) hD.2.2.2.1.2.2 hd (hlocks := hF.2.2.2.2.2.1)))
  exact ⟨⟨some (.long v), h, n, ad, rfl, hp, dy_awd hD ht hW.alike⟩, hD.2.2.2.1.F ht⟩
theorem aw_vret {Po : APost} (hr : T.2.2.2.1 = none) (hd : decode T.2.1 pc = .ok (.return_, 1)) (hce : ce ≤ T.2.2.2.2.1.cells) (hsl : sl ≤ T.2.2.2.2.1.slots) (hp : Po (.inl none) h n) : AW T (AQm T Po) CX pc lo [] h n ce sl := by
  intro p l e1 s m args below meth c H locs ls ad kc D z A hF hC hD
  refine W.widen hce hsl (vx_ret (W.vret hF.1 hF.2.1 (hF.2.2.2.2.2.2.1.trans hr) (fun t ht hW => ?_) hD.2.2.2.1.2.2 hd (hlocks := hF.2.2.2.2.2.1)))
  exact ⟨⟨none, h, n, ad, rfl, hp, dy_awd hD ht hW.alike⟩, hD.2.2.2.1.F ht⟩
theorem args_mem : ∀ (vs : List Value) (k i : Nat) (v : Value), (∀ w ∈ vs, w.category = 1) → vs[i]? = some v → (k + i, v) ∈ lv_args k vs
  | [], k, i, v, _, h => by simp at h
  | w :: vs, k, i, v, hc, h => by
    have h1 : ¬ w.category = 2 := by rw [hc w List.mem_cons_self]; decide
    rw [lv_args, if_neg h1]
    cases i with
    | zero => simp at h; subst h; exact List.mem_cons_self
    | succ i =>
      refine List.mem_cons_of_mem _ ?_
      have := args_mem vs (k + 1) i v (fun w hw => hc w (List.mem_cons_of_mem _ hw)) (by simpa using h)
      rw [show k + (i + 1) = k + 1 + i by omega]
      exact this
theorem sl_len : ∀ (vs : List Value), (∀ w ∈ vs, w.category = 1) → (lg_sl vs).length = vs.length
  | [], _ => rfl
  | w :: vs, hc => by
    have h1 : ¬ w.category = 2 := by rw [hc w List.mem_cons_self]; decide
    have h2 := sl_len vs (fun w hw => hc w (List.mem_cons_of_mem _ hw))
    unfold lg_sl at h2 ⊢
    simp only [List.flatMap_cons, List.length_append, List.length_cons, h1, if_false]
    rw [h2]
    simp [Nat.add_comm]
theorem amet_of {y : MethodName} {av : List Value} {Po : APost} (hy : plainName y.cls = true) (hyn : y.cls = T.1) (hini : T.2.2.2.2.2 = true → y.name = "<init>") (hlen : av.length ≤ T.2.2.1) (hcat : ∀ v ∈ av, v.category = 1) (hlo : av.map some ++ List.replicate (T.2.2.1 - av.length) none = lo)
    (body : AW T (AQm T Po) C0 0 lo [] h n 0 0) : AMet T y [Cond.code y T.2.1 T.2.2.1 T.2.2.2.1] av h n Po := by
  intro l hl ad kc D sz
  refine vx_ofW (cc := T.2.1) (maxL := T.2.2.1) (ret := T.2.2.2.1) (ws' := []) hy rfl ?_
  intro p e s m args below meth c s₁ B hml hX hv
  obtain ⟨rfl, hsz, hn9, hK, hP, hD0, hE⟩ := hv
  subst hsz
  have hcat' : ∀ w ∈ av.map (cv ad), w.category = 1 := fun w hw => by
    obtain ⟨v, h1, rfl⟩ := List.mem_map.mp hw
    rw [cv_cat]; exact hcat v h1
  have hl0 := lv_entry (av.map (cv ad)) (n := T.2.2.1) (by rw [sl_len _ hcat', List.length_map]; exact hlen)
  rw [lg_entry_eq]
  refine body p l e s m _ below meth c s.heap [] _ ad kc D (ad, n) (va_A (cW ad kc h n) s.heap.size) ?_ hX ?_
  · have hown : s.vm.findClass y.cls = some m.cls := findClass_of_methodNamed B.named
    refine ⟨B.exec, B.bytes, hml, by rw [← hyn]; exact hown, fun w hw => pw_warm (List.mem_filter.mp hw).2 (State.WarmedH.refl s) (hE.1 w hw), B.notSynchronized, B.returns, hl, fun q hq => Or.inr hq, hE, fun hi => ?_⟩
    rw [(name_of_methodNamed B.named B.method).1]
    exact hini hi
  · refine ⟨hK, hP, hD0.self, va_S.rf, fun _ _ => rfl, ⟨Nat.le_refl _, hn9⟩, ⟨hl0.1, hl0.2.1, fun i v hi => ?_⟩⟩
    subst hlo
    have hi2 : av[i]? = some v := by
      rw [List.getElem?_append] at hi
      split at hi
      · rw [List.getElem?_map] at hi
        cases ha : av[i]? with
        | none => rw [ha] at hi; simp at hi
        | some w => rw [ha] at hi; simp at hi; rw [hi]
      · rw [List.getElem?_replicate] at hi
        split at hi <;> simp at hi
    have := args_mem (av.map (cv ad)) 0 i (cv ad v) hcat' (by rw [List.getElem?_map, hi2]; rfl)
    rw [Nat.zero_add] at this
    exact hl0.2.2 _ this

theorem met_of_vx {l : Launch} {y : MethodName} {ws : List Cond} {rm : Room} {Pc : Array Value → State → Prop} {Qc : Array Value → State → Outcome → State → Prop} {XC : String → State → State → Prop} {mc ms : Nat} {free : Addr → Prop} (hM : vx_Met l y ws rm Pc Qc XC mc ms free) (hX : ∀ E s t, ¬ XC E s t) : Met l y ws rm Pc Qc mc ms free := by
  intro p e h1 h2 h3 s m args below h4 h5 h6 h7
  obtain ⟨k, o, a1, a2, a3, a4⟩ := hM p e h1 h2 h3 s m args below h4 h5 h6 h7
  refine ⟨k, o, a1, a2, a3, ?_⟩
  rcases a4 with a4 | ⟨q, b1, E, ce, L, b2, -⟩
  · exact a4
  · exact absurd b2 (hX _ _ _)
theorem run_of_va {p : Program} {l : Launch} {e : Env} {R : Room} {s : State} {m : MethodId} {args : Array Value} {below : List Frame} {meth : Method} {c : Code} {H : Heap} {locs : List Loc} {cells slots mc ms : Nat} {g : JFrame} {rest : List Value} {Qa : State → Outcome → State → Prop} {XC : String → State → State → Prop} {free : Addr → Prop}
    (hr : va_Run p l e R s m args below meth c H locs cells slots mc ms g rest Qa free) : vx_Run p l e R s m args below meth c H locs cells slots mc ms g rest Qa XC free := by
  intro T hT X
  exact Or.inl (hr T hT X)
/-- behind a call -/
theorem aw_run {Po : APost} {p : Program} {l : Launch} {e0 : Env} {s : State} {m : MethodId} {args : Array Value} {below : List Frame} {meth : Method} {c : Code} {H : Heap} {locs : List Loc} {ls : Array Slot} {ad : Nat → Nat} {kc : Nat → ClassId} {D : va_G} {z : (Nat → Nat) × Nat} {A : Nat → Prop} {mc ms : Nat} {sk : List Value} {a : Array Value}
    (hF : FX T p l s m args meth c z A) (hC : CX c s z A) (hD : DY T s H locs ls ad kc D z A lo h n)
    (hr : vx_Run p l e0 T.2.2.2.2.1 s m args below meth c H locs ce sl mc ms (F0 m pc ls sk) (st.map (cv ad)) (AQc Po kc D (ad, n) (va_A (cW ad kc h n) H.size) a) (AXc Po kc D (ad, n) (va_A (cW ad kc h n) H.size)) (va_A (cW ad kc h n) H.size))
    (hna : ∀ o h' n', Po o h' n' → n' = n)
    (kx : ∀ (E : String) (h' : Nat → AE) (H1 : Heap) (locs1 : List Loc) (q : Addr) (cl : Cell), Po (.inr E) h' n → DY T s H1 locs1 ls ad kc D z A lo h' n → H1[q]? = some cl → cl.vm = .none → s.vm.findClass E = some cl.cls → vx_W p l e0 T.2.2.2.2.1 s m args below meth c H1 locs1 (ce + mc) (sl + ms) (Q below args s kc D z A) (F0 m pc ls (st.map (cv ad))) q)
    (kk : ∀ (v : Option Value) (h' : Nat → AE), Po (.inl v) h' n → AW T Q CX (pc + 3) lo (v.toList ++ st) h' n (ce + mc) (sl + ms)) : W p l e0 T.2.2.2.2.1 s m args below meth c H locs ce sl (Q below args s kc D z A) (F0 m pc ls sk) := by
  intro T0 hT X
  have hA : ∀ q, va_A (cW ad kc h n) H.size q → A q := by
    intro q hq
    rcases hq with ⟨k, e, hk⟩ | hq
    · exact hD.2.2.1.2 k _ hk
    · exact hF.2.2.2.2.2.2.2.2.1 q (Nat.le_trans hD.2.2.2.1.1 hq)
  have hdy : ∀ (h' : Nat → AE) (ad' : Nat → Nat) (t T' : State) (L : List Loc), T'.heap = t.heap → s.vm.Alike t.vm → va_S A s.heap T'.heap (locs ++ L) → AWd kc D (ad, n) (va_A (cW ad kc h n) H.size) ad' h' n t → ad' = ad ∧ DY T s T'.heap (locs ++ L) ls ad kc D z A lo h' n := by
    intro h' ad' t T' L e1 hv k3 hw
    have had : ad' = ad := by
      funext i
      rcases Nat.lt_or_ge i n with q | q
      · exact hw.2.2.2.1 i (Or.inl q)
      · exact hw.2.2.2.1 i (Or.inr q)
    subst had
    exact ⟨rfl, hD.1, by rw [e1]; exact hw.1, hw.2.2.1.weaken (fun _ q _ hq => hA q.1 hq), k3, hD.2.2.2.2.1, hD.2.2.2.2.2.1, hD.2.2.2.2.2.2⟩
  rcases hr T0 hT X with ⟨v0, st₀, t, T', L, h0, X', hL, e1, e2, ⟨⟨v, h', n', ad', hv, hp, hw⟩, hFr⟩, st1⟩ | ⟨q, st₀, t, T', L, E, cl, h0, X', hL, e1, e2, ⟨⟨h', n', ad', hp, hw⟩, hFr⟩, hce, hcv, hcl, st1⟩
  · obtain rfl := hna _ _ _ hp
    obtain ⟨k1, k2, k3⟩ := vx_keep h0 e1 hD.2.2.2.1 (fun q _ hq => hA q hq) hA hL hFr
    obtain ⟨rfl, hdy1⟩ := hdy h' ad' t T' L e1 (by rw [← e2]; exact X'.warmed.alike) k3 hw
    have hv' : v0 = v.map (cv ad') := by cases hv; rfl
    subst hv'
    obtain ⟨t2, a1, b1⟩ := kk v h' hp p l e0 s m args below meth c T'.heap (locs ++ L) ls ad' kc D z A hF hC hdy1 T' rfl X'
    refine ⟨t2, st1 t2 ?_, b1⟩
    have e3 : (v.toList ++ st).map (cv ad') = (v.map (cv ad')).toList ++ st.map (cv ad') := by cases v <;> simp
    rw [e3] at a1
    exact a1
  · obtain rfl := hna _ _ _ hp
    obtain ⟨k1, k2, k3⟩ := vx_keep h0 e1 hD.2.2.2.1 (fun q _ hq => hA q hq) hA hL hFr
    obtain ⟨rfl, hdy1⟩ := hdy h' ad' t T' L e1 (by rw [← e2]; exact X'.warmed.alike) k3 hw
    obtain ⟨t2, a1, b1⟩ := kx E h' T'.heap (locs ++ L) q cl hp hdy1 (by rw [e1]; exact hce) hcv hcl T' rfl X'
    exact ⟨t2, st1.trans a1, b1⟩
/-- a method that can be called: its code, its class, how many arguments -/
def KO (y : MethodName) (cc : ByteArray) (maxL : Nat) (ret : Option FieldType) (na : Nat) : Prop := Cond.code y cc maxL ret ∈ GW ∧ Cond.initialized y.cls ∈ GW ∧ (y.cls ≠ "java/lang/invoke/MethodHandle" ∧ y.cls ≠ "java/lang/invoke/VarHandle" ∧ (parseMethodDescriptor y.desc).map (fun d => d.parameters.length) = some na)
/-- .. and how own links it -/
def KL (own : String) (index : Nat) (y : MethodName) : Prop := Cond.methodLink own index y ∈ GW ∨ ∃ host, Cond.methodLinkNest own index y host ∈ GW
def KV (own : String) (index : Nat) (y : MethodName) : Prop := KL own index y ∧ Cond.instanceMethod y ∈ GW ∧ Cond.selects y.cls y y ∈ GW
def KS (own : String) (index : Nat) (y : MethodName) : Prop := KL own index y ∧ Cond.static y ∈ GW
def KI (own : String) (index : Nat) (y : MethodName) : Prop := KL own index y ∧ y.name = "<init>" ∧ Cond.instanceMethod y ∈ GW
theorem ko_good {y : MethodName} {cc : ByteArray} {maxL na : Nat} {ret : Option FieldType} (hk : KO y cc maxL ret na) : GoodIn GW [Cond.code y cc maxL ret] := by
  intro w hw
  rw [List.mem_singleton] at hw
  subst hw
  exact ⟨hk.1, good_of_word (show goodWord _ = true from (List.mem_filter.mp hk.1).2)⟩
theorem apc_blind {av : List Value} {ad : Nat → Nat} {kc : Nat → ClassId} {D : va_G} {sz : Nat} : FrameBlind (APc av h n ad kc D sz) := by
  intro a U g mk hp
  obtain ⟨h1, h2, h9, h3, h4, h5, h6⟩ := hp
  exact ⟨h1, h2, h9, va_K.moved (u := U) (U := U.calling g mk a) (Vm.Alike.refl U.vm) h3, h4, h5, EV.call h6⟩
theorem apc_at {av : List Value} {p : Program} {l : Launch} {s : State} {m : MethodId} {args : Array Value} {meth : Method} {c : Code} {H : Heap} {locs : List Loc} {ls : Array Slot} {ad : Nat → Nat} {kc : Nat → ClassId} {D : va_G} {z : (Nat → Nat) × Nat} {A : Nat → Prop} (hF : FX T p l s m args meth c z A) (hD : DY T s H locs ls ad kc D z A lo h n) :
    ∀ U : State, U.heap = H → s.WarmedH U.vm → APc av h n ad kc D H.size (av.map (cv ad)).toArray U := by
  intro U hU hW
  have hA : ∀ q, va_A (cW ad kc h n) H.size q → A q := by
    intro q hq
    rcases hq with ⟨k, e, hk⟩ | hq
    · exact hD.2.2.1.2 k _ hk
    · exact hF.2.2.2.2.2.2.2.2.1 q (Nat.le_trans hD.2.2.2.1.1 hq)
  have hsa : (fun k => ad (900000 + k)) = (fun k => z.1 (900000 + k)) := by
    funext k
    exact hD.2.2.2.2.1 _ (Or.inr (Nat.le_trans hD.2.2.2.2.2.1.2 (Nat.le_add_right _ _)))
  refine ⟨rfl, by rw [hU], hD.2.2.2.2.2.1.2, va_K.moved hW.alike hD.1, by rw [hU]; exact hD.2.1, hD.2.2.1.weaken (fun _ _ _ _ => trivial), ?_⟩
  rw [hsa]
  exact EV.step hF.2.2.2.2.2.2.2.2.2.1 hD.2.2.2.1 hU hW hA
theorem sum_cat (ad : Nat → Nat) (st : List Value) : ((st.map (cv ad)).map fun v => v.category).sum = (st.map fun v => v.category).sum := by
  rw [List.map_map]
  congr 1
  apply List.map_congr_left
  intro v _
  exact cv_cat ad v
/-- room for a call -/
abbrev RmOk (T Tc : ATy) (ce sl : Nat) : Prop := Tc.2.2.2.2.1.frames + 1 ≤ T.2.2.2.2.1.frames ∧ 8 + (Tc.2.2.1 + 11) + Tc.2.2.2.2.1.locals ≤ T.2.2.2.2.1.locals ∧ ce + Tc.2.2.2.2.1.cells ≤ T.2.2.2.2.1.cells ∧ sl + Tc.2.2.2.2.1.slots ≤ T.2.2.2.2.1.slots
section Crows
variable {Tc : ATy} {y : MethodName} {Po Po' : APost} {index : Nat} {sk as : List Value} {i ci na : Nat} {fs : List Value} {r : vw_C}
theorem aw_callV (hL : KV T.1 index y) (hK : KO y Tc.2.1 Tc.2.2.1 Tc.2.2.2.1 na) (hM : AMet Tc y [Cond.code y Tc.2.1 Tc.2.2.1 Tc.2.2.2.1] (.ref i :: as) h n Po) (hd : decode T.2.1 pc = .ok (.invokevirtual index, 3)) (he : h i = .inr (ci, fs)) (hi : i < n) (hcl : vwCl[ci]? = some r) (hr1 : r.1 = y.cls) (hst : sk = as.reverse ++ .ref i :: st) (hna9 : as.length = na) (hw : (st.map fun v => v.category).sum ≤ 8) (hR : RmOk T Tc ce sl)
    (hnx : ∀ E h' n', ¬ Po (.inr E) h' n') (hna : ∀ o h' n', Po o h' n' → n' = n) (kk : ∀ (v : Option Value) (h' : Nat → AE), Po (.inl v) h' n → AW T Q CX (pc + 3) lo (v.toList ++ st) h' n (ce + Tc.2.2.2.2.1.cells) (sl + Tc.2.2.2.2.1.slots)) : AW T Q CX pc lo sk h n ce sl := by
  intro p l e1 s m args below meth c H locs ls ad kc D z A hF hC hD
  have hM1 := met_of_vx (hM l hF.2.2.2.2.2.2.2.1 ad kc D H.size) (fun E s t hx => by obtain ⟨⟨h', n', ad', hp, -⟩, -⟩ := hx; exact hnx _ _ _ hp)
  have hrec := va_recv hD.1 hD.2.1 hcl (cW_getE (ad := ad) (kc := kc) hi he rfl)
  rw [hr1] at hrec
  subst hst
  refine aw_run (a := (Value.ref (ad i) :: as.map (cv ad)).toArray) (mc := Tc.2.2.2.2.1.cells) (ms := Tc.2.2.2.2.1.slots) hF hC hD ?_ hna (fun E h' H1 locs1 q cl hp => absurd hp (hnx _ _ _)) kk
  refine run_of_va ?_
  obtain ⟨hL | ⟨host, hL⟩, hins, hsel⟩ := hL
  · exact va_runV (bytes := Tc.2.1) (maxL := Tc.2.2.1) (ret := Tc.2.2.2.1) (n := na) (C := y.cls) (b := ad i) (As := as.map (cv ad)) (own := T.1) (Ts := GW) (nL := T.2.2.1) ⟨hF.1, hF.2.1, hF.2.2.1, hF.2.2.2.1, hF.2.2.2.2.1⟩ hM1
      ⟨callB_of (ws' := []) na hF.2.2.2.2.1 (ko_good hK) rfl rfl rfl (hF.2.2.2.2.1 _ hK.2.1) (hF.2.2.2.2.1 _ hL) hK.2.2 ⟨hR.1, hR.2.1⟩, hF.2.2.2.2.1 _ hins, hF.2.2.2.2.1 _ hsel⟩
      ⟨apc_blind, hrec, apc_at (av := .ref i :: as) hF hD⟩ rfl (by rw [List.length_map]; exact hna9) hD.2.2.2.2.2.2.1 (by simp [List.map_append, List.map_reverse, cv]) (lv_room (by rw [sum_cat]; exact hw)) hd ⟨hR.2.2.1, hR.2.2.2⟩
  · exact va_runVN (bytes := Tc.2.1) (maxL := Tc.2.2.1) (ret := Tc.2.2.2.1) (n := na) (C := y.cls) (b := ad i) (As := as.map (cv ad)) (own := T.1) (Ts := GW) (nL := T.2.2.1) ⟨hF.1, hF.2.1, hF.2.2.1, hF.2.2.2.1, hF.2.2.2.2.1⟩ hM1
      ⟨va_cnB (ws' := []) na hF.2.2.2.2.1 (ko_good hK) rfl rfl rfl (va_Nw.of rfl (hF.2.2.2.2.1 _ hL)) (hF.2.2.2.2.1 _ hK.2.1) hK.2.2 ⟨hR.1, hR.2.1⟩, hF.2.2.2.2.1 _ hins, hF.2.2.2.2.1 _ hsel⟩
      ⟨apc_blind, hrec, apc_at (av := .ref i :: as) hF hD⟩ rfl (by rw [List.length_map]; exact hna9) hD.2.2.2.2.2.2.1 (by simp [List.map_append, List.map_reverse, cv]) (lv_room (by rw [sum_cat]; exact hw)) hd ⟨hR.2.2.1, hR.2.2.2⟩
theorem aw_callS (hL : KS T.1 index y) (hK : KO y Tc.2.1 Tc.2.2.1 Tc.2.2.2.1 na) (hM : AMet Tc y [Cond.code y Tc.2.1 Tc.2.2.1 Tc.2.2.2.1] as h n Po) (hd : decode T.2.1 pc = .ok (.invokestatic index, 3)) (hst : sk = as.reverse ++ st) (hna9 : as.length = na) (hw : (st.map fun v => v.category).sum ≤ 8) (hR : RmOk T Tc ce sl)
    (hnx : ∀ E h' n', ¬ Po (.inr E) h' n') (hna : ∀ o h' n', Po o h' n' → n' = n) (kk : ∀ (v : Option Value) (h' : Nat → AE), Po (.inl v) h' n → AW T Q CX (pc + 3) lo (v.toList ++ st) h' n (ce + Tc.2.2.2.2.1.cells) (sl + Tc.2.2.2.2.1.slots)) : AW T Q CX pc lo sk h n ce sl := by
  intro p l e1 s m args below meth c H locs ls ad kc D z A hF hC hD
  have hM1 := met_of_vx (hM l hF.2.2.2.2.2.2.2.1 ad kc D H.size) (fun E s t hx => by obtain ⟨⟨h', n', ad', hp, -⟩, -⟩ := hx; exact hnx _ _ _ hp)
  subst hst
  refine aw_run (a := (as.map (cv ad)).toArray) (mc := Tc.2.2.2.2.1.cells) (ms := Tc.2.2.2.2.1.slots) hF hC hD ?_ hna (fun E h' H1 locs1 q cl hp => absurd hp (hnx _ _ _)) kk
  refine run_of_va ?_
  obtain ⟨hL | ⟨host, hL⟩, hsta⟩ := hL
  · exact va_runS (bytes := Tc.2.1) (maxL := Tc.2.2.1) (ret := Tc.2.2.2.1) (n := na) (As := as.map (cv ad)) (own := T.1) (Ts := GW) (nL := T.2.2.1) ⟨hF.1, hF.2.1, hF.2.2.1, hF.2.2.2.1, hF.2.2.2.2.1⟩ hM1
      ⟨callB_of (ws' := []) na hF.2.2.2.2.1 (ko_good hK) rfl rfl rfl (hF.2.2.2.2.1 _ hK.2.1) (hF.2.2.2.2.1 _ hL) hK.2.2 ⟨hR.1, hR.2.1⟩, hF.2.2.2.2.1 _ hsta⟩
      ⟨apc_blind, apc_at (av := as) hF hD⟩ rfl (by rw [List.length_map]; exact hna9) hD.2.2.2.2.2.2.1 (by simp [List.map_append, List.map_reverse]) (lv_room (by rw [sum_cat]; exact hw)) hd ⟨hR.2.2.1, hR.2.2.2⟩
  · exact va_runSN (bytes := Tc.2.1) (maxL := Tc.2.2.1) (ret := Tc.2.2.2.1) (n := na) (As := as.map (cv ad)) (own := T.1) (Ts := GW) (nL := T.2.2.1) ⟨hF.1, hF.2.1, hF.2.2.1, hF.2.2.2.1, hF.2.2.2.2.1⟩ hM1
      ⟨va_cnB (ws' := []) na hF.2.2.2.2.1 (ko_good hK) rfl rfl rfl (va_Nw.of rfl (hF.2.2.2.2.1 _ hL)) (hF.2.2.2.2.1 _ hK.2.1) hK.2.2 ⟨hR.1, hR.2.1⟩, hF.2.2.2.2.1 _ hsta, trivial⟩
      ⟨apc_blind, apc_at (av := as) hF hD⟩ rfl (by rw [List.length_map]; exact hna9) hD.2.2.2.2.2.2.1 (by simp [List.map_append, List.map_reverse]) (lv_room (by rw [sum_cat]; exact hw)) hd ⟨hR.2.2.1, hR.2.2.2⟩
/-- a call that may throw, in a method without handlers -/
theorem aw_xcallV (hL : Cond.methodLink T.1 index y ∈ GW) (hins : Cond.instanceMethod y ∈ GW) (hsel : Cond.selects y.cls y y ∈ GW) (hK : KO y Tc.2.1 Tc.2.2.1 Tc.2.2.2.1 na) (hM : AMet Tc y [Cond.code y Tc.2.1 Tc.2.2.1 Tc.2.2.2.1] (.ref i :: as) h n Po) (hd : decode T.2.1 pc = .ok (.invokevirtual index, 3)) (he : h i = .inr (ci, fs)) (hi : i < n) (hcl : vwCl[ci]? = some r) (hr1 : r.1 = y.cls) (hst : sk = as.reverse ++ .ref i :: st) (hna9 : as.length = na) (hw : (st.map fun v => v.category).sum ≤ 8) (hR : RmOk T Tc ce sl)
    (hna : ∀ o h' n', Po o h' n' → n' = n) (kx : ∀ E h', Po (.inr E) h' n → Po' (.inr E) h' n) (kk : ∀ (v : Option Value) (h' : Nat → AE), Po (.inl v) h' n → AW T (AQm T Po') C0 (pc + 3) lo (v.toList ++ st) h' n (ce + Tc.2.2.2.2.1.cells) (sl + Tc.2.2.2.2.1.slots)) : AW T (AQm T Po') C0 pc lo sk h n ce sl := by
  intro p l e1 s m args below meth c H locs ls ad kc D z A hF hC hD
  have hM1 := hM l hF.2.2.2.2.2.2.2.1 ad kc D H.size
  have hrec := va_recv hD.1 hD.2.1 hcl (cW_getE (ad := ad) (kc := kc) hi he rfl)
  rw [hr1] at hrec
  subst hst
  refine aw_run (a := (Value.ref (ad i) :: as.map (cv ad)).toArray) (mc := Tc.2.2.2.2.1.cells) (ms := Tc.2.2.2.2.1.slots) hF hC hD ?_ hna ?_ kk
  · exact vx_runV (bytes := Tc.2.1) (maxL := Tc.2.2.1) (ret := Tc.2.2.2.1) (n := na) (C := y.cls) (b := ad i) (As := as.map (cv ad)) (own := T.1) (Ts := GW) (nL := T.2.2.1) ⟨hF.1, hF.2.1, hF.2.2.1, hF.2.2.2.1, hF.2.2.2.2.1⟩ hM1
      ⟨callB_of (ws' := []) na hF.2.2.2.2.1 (ko_good hK) rfl rfl rfl (hF.2.2.2.2.1 _ hK.2.1) (hF.2.2.2.2.1 _ hL) hK.2.2 ⟨hR.1, hR.2.1⟩, hF.2.2.2.2.1 _ hins, hF.2.2.2.2.1 _ hsel⟩
      ⟨apc_blind, hrec, apc_at (av := .ref i :: as) hF hD⟩ rfl (by rw [List.length_map]; exact hna9) hD.2.2.2.2.2.2.1 (by simp [List.map_append, List.map_reverse, cv]) (lv_room (by rw [sum_cat]; exact hw)) hd ⟨hR.2.2.1, hR.2.2.2⟩
  · intro E h' H1 locs1 q cl hp hD1 h1 h2 h3
    exact vx_out (fun x hx => (hC x hx).elim) hF.2.2.2.2.2.1 h1 h2 h3 (fun t ht hv => ⟨⟨h', n, ad, kx E h' hp, dy_awd hD1 ht hv⟩, hD1.2.2.2.1.F ht⟩) hD1.2.2.2.1.2.2 hR.2.2.1 hR.2.2.2
theorem aw_xcallS (hL : Cond.methodLink T.1 index y ∈ GW) (hsta : Cond.static y ∈ GW) (hK : KO y Tc.2.1 Tc.2.2.1 Tc.2.2.2.1 na) (hM : AMet Tc y [Cond.code y Tc.2.1 Tc.2.2.1 Tc.2.2.2.1] as h n Po) (hd : decode T.2.1 pc = .ok (.invokestatic index, 3)) (hst : sk = as.reverse ++ st) (hna9 : as.length = na) (hw : (st.map fun v => v.category).sum ≤ 8) (hR : RmOk T Tc ce sl)
    (hna : ∀ o h' n', Po o h' n' → n' = n) (kx : ∀ E h', Po (.inr E) h' n → Po' (.inr E) h' n) (kk : ∀ (v : Option Value) (h' : Nat → AE), Po (.inl v) h' n → AW T (AQm T Po') C0 (pc + 3) lo (v.toList ++ st) h' n (ce + Tc.2.2.2.2.1.cells) (sl + Tc.2.2.2.2.1.slots)) : AW T (AQm T Po') C0 pc lo sk h n ce sl := by
  intro p l e1 s m args below meth c H locs ls ad kc D z A hF hC hD
  have hM1 := hM l hF.2.2.2.2.2.2.2.1 ad kc D H.size
  subst hst
  refine aw_run (a := (as.map (cv ad)).toArray) (mc := Tc.2.2.2.2.1.cells) (ms := Tc.2.2.2.2.1.slots) hF hC hD ?_ hna ?_ kk
  · exact vx_runS (bytes := Tc.2.1) (maxL := Tc.2.2.1) (ret := Tc.2.2.2.1) (n := na) (As := as.map (cv ad)) (own := T.1) (Ts := GW) (nL := T.2.2.1) ⟨hF.1, hF.2.1, hF.2.2.1, hF.2.2.2.1, hF.2.2.2.2.1⟩ hM1
      ⟨callB_of (ws' := []) na hF.2.2.2.2.1 (ko_good hK) rfl rfl rfl (hF.2.2.2.2.1 _ hK.2.1) (hF.2.2.2.2.1 _ hL) hK.2.2 ⟨hR.1, hR.2.1⟩, hF.2.2.2.2.1 _ hsta⟩
      ⟨apc_blind, apc_at (av := as) hF hD⟩ rfl (by rw [List.length_map]; exact hna9) hD.2.2.2.2.2.2.1 (by simp [List.map_append, List.map_reverse]) (lv_room (by rw [sum_cat]; exact hw)) hd ⟨hR.2.2.1, hR.2.2.2⟩
  · intro E h' H1 locs1 q cl hp hD1 h1 h2 h3
    exact vx_out (fun x hx => (hC x hx).elim) hF.2.2.2.2.2.1 h1 h2 h3 (fun t ht hv => ⟨⟨h', n, ad, kx E h' hp, dy_awd hD1 ht hv⟩, hD1.2.2.2.1.F ht⟩) hD1.2.2.2.1.2.2 hR.2.2.1 hR.2.2.2
end Crows
theorem va_P_same {D : va_G} {ws : va_W} {H H1 : Heap} (hP : va_P D vwCl ws H) (hk : ∀ q : Nat, q < H.size → H1[q]? = H[q]?) : va_P D vwCl ws H1 := fun k q hq => (hP k q hq).kept (hk q.1 (vx_lt hP hq))
/-- all that a throw of cls asks of the tables -/
def TX (own : String) (ik is ic : Nat) (cls text : String) (names : List String) : Prop := Bundle.fit cls = true ∧ (∀ n ∈ names, Bundle.fit n = true) ∧ Cond.classLink own ik cls ∈ GW ∧ Cond.initialized cls ∈ GW ∧ (own, is, text) ∈ STX ∧ (∀ w ∈ vx_atS own ic cls names, w ∈ GW) ∧ (∀ w ∈ Cond.classLink own ik cls :: Cond.initialized cls :: vx_atS own ic cls names, vx_ot w = true)
theorem aw_throwS {Po : APost} {ik is ic : Nat} {cls text : String} {names : List String} (hX : TX T.1 ik is ic cls text names)
    (d0 : decode T.2.1 pc = .ok (.new ik, 3)) (d3 : decode T.2.1 (pc + 3) = .ok (.dup, 1)) (d4 : decode T.2.1 (pc + 4) = .ok (.ldc is, 2)) (d6 : decode T.2.1 (pc + 6) = .ok (.invokespecial ic, 3)) (d9 : decode T.2.1 (pc + 9) = .ok (.athrow, 1))
    (hR : names.length + 3 < T.2.2.2.2.1.frames ∧ (st.map fun v => v.category).sum + (13 * (names.length + 1) + 43) ≤ T.2.2.2.2.1.locals ∧ ce + 1 ≤ T.2.2.2.2.1.cells ∧ sl + 6 ≤ T.2.2.2.2.1.slots) (hp : Po (.inr cls) h n) : AW T (AQm T Po) C0 pc lo st h n ce sl := by
  intro p l e1 s m args below meth c H locs ls ad kc D z A hF hC hD
  obtain ⟨h1, h2, h3, h4, h5, h6, h7⟩ := hX
  obtain ⟨sa, hsa⟩ := hF.2.2.2.2.2.2.2.2.2.1.2.2.2.1 _ h5
  exact vx_throwS (A := A) hF.1 hF.2.1 hF.2.2.2.2.2.2.2.1 hF.2.2.2.1 h1 h2 (hF.2.2.2.2.1 _ h3) (hF.2.2.2.2.1 _ h4) hsa (fun w hw => hF.2.2.2.2.1 _ (h6 w hw)) h7 hF.2.2.2.2.2.2.2.2.2.1.2.1 hF.2.2.2.2.2.2.2.2.2.1.2.2.1 hD.2.2.2.1 (hD.2.2.2.2.2.2.1.trans hF.2.2.1.symm) d0 d3 d4 d6 d9 (fun x hx => (hC x hx).elim) hR.1 (by rw [sum_cat]; exact hR.2.1) hR.2.2.1 hR.2.2.2 hF.2.2.2.2.2.1
    (fun t hv hz hk => ⟨⟨h, n, ad, hp, va_P_same hD.2.1 hk, va_K.moved hv hD.1, hD.2.2.1, hD.2.2.2.2.1, hD.2.2.2.2.2.1⟩, ⟨Nat.le_trans hD.2.2.2.1.1 hz, fun q hq hA => by rw [hk q (Nat.lt_of_lt_of_le hq hD.2.2.2.1.1)]; exact hD.2.2.2.1.2.1 q hq hA⟩⟩) hD.2.2.2.1.2.2 hR.2.2.1 hR.2.2.2
theorem aw_throwSW {Po : APost} {ik is ic : Nat} {cls text : String} {names : List String} (hX : TX T.1 ik is ic cls text names)
    (d0 : decode T.2.1 pc = .ok (.new ik, 3)) (d3 : decode T.2.1 (pc + 3) = .ok (.dup, 1)) (d4 : decode T.2.1 (pc + 4) = .ok (.ldc_w is, 3)) (d6 : decode T.2.1 (pc + 7) = .ok (.invokespecial ic, 3)) (d9 : decode T.2.1 (pc + 10) = .ok (.athrow, 1))
    (hR : names.length + 3 < T.2.2.2.2.1.frames ∧ (st.map fun v => v.category).sum + (13 * (names.length + 1) + 43) ≤ T.2.2.2.2.1.locals ∧ ce + 1 ≤ T.2.2.2.2.1.cells ∧ sl + 6 ≤ T.2.2.2.2.1.slots) (hp : Po (.inr cls) h n) : AW T (AQm T Po) C0 pc lo st h n ce sl := by
  intro p l e1 s m args below meth c H locs ls ad kc D z A hF hC hD
  obtain ⟨h1, h2, h3, h4, h5, h6, h7⟩ := hX
  obtain ⟨sa, hsa⟩ := hF.2.2.2.2.2.2.2.2.2.1.2.2.2.1 _ h5
  exact vx_throwSW (A := A) hF.1 hF.2.1 hF.2.2.2.2.2.2.2.1 hF.2.2.2.1 h1 h2 (hF.2.2.2.2.1 _ h3) (hF.2.2.2.2.1 _ h4) hsa (fun w hw => hF.2.2.2.2.1 _ (h6 w hw)) h7 hF.2.2.2.2.2.2.2.2.2.1.2.1 hF.2.2.2.2.2.2.2.2.2.1.2.2.1 hD.2.2.2.1 (hD.2.2.2.2.2.2.1.trans hF.2.2.1.symm) d0 d3 d4 d6 d9 (fun x hx => (hC x hx).elim) hR.1 (by rw [sum_cat]; exact hR.2.1) hR.2.2.1 hR.2.2.2 hF.2.2.2.2.2.1
    (fun t hv hz hk => ⟨⟨h, n, ad, hp, va_P_same hD.2.1 hk, va_K.moved hv hD.1, hD.2.2.1, hD.2.2.2.2.1, hD.2.2.2.2.2.1⟩, ⟨Nat.le_trans hD.2.2.2.1.1 hz, fun q hq hA => by rw [hk q (Nat.lt_of_lt_of_le hq hD.2.2.2.1.1)]; exact hD.2.2.2.1.2.1 q hq hA⟩⟩) hD.2.2.2.1.2.2 hR.2.2.1 hR.2.2.2
def KMin (own : String) (index : Nat) : Prop := Cond.methodLink own index Lib.Math.min.name ∈ GW ∧ Cond.static Lib.Math.min.name ∈ GW ∧ Cond.initialized "java/lang/Math" ∈ GW ∧ Cond.code Lib.Math.min.name Lib.Math.min.code 2 (some .int) ∈ GW
def KMax (own : String) (index : Nat) : Prop := Cond.methodLink own index Lib.Math.max.name ∈ GW ∧ Cond.static Lib.Math.max.name ∈ GW ∧ Cond.initialized "java/lang/Math" ∈ GW ∧ Cond.code Lib.Math.max.name Lib.Math.max.code 2 (some .int) ∈ GW
theorem aw_mmin {index : Nat} {x y : Int32} (hK : KMin T.1 index) (hd : decode T.2.1 pc = .ok (.invokestatic index, 3)) (hR : 1 ≤ T.2.2.2.2.1.frames ∧ (st.map fun v => v.category).sum + 13 ≤ T.2.2.2.2.1.locals ∧ ce ≤ T.2.2.2.2.1.cells ∧ sl ≤ T.2.2.2.2.1.slots) (kk : AW T Q CX (pc + 3) lo (.int (if y < x then y else x) :: st) h n ce sl) : AW T Q CX pc lo (.int y :: .int x :: st) h n ce sl := by
  intro p l e1 s m args below meth c H locs ls ad kc D z A hF hC hD
  exact va_mmin hF.1 hF.2.1 (hF.2.2.1.trans hD.2.2.2.2.2.2.1.symm) hF.2.2.2.1 (hF.2.2.2.2.1 _ hK.1) (hF.2.2.2.2.1 _ hK.2.1) (hF.2.2.2.2.1 _ hK.2.2.1) (hF.2.2.2.2.1 _ hK.2.2.2) hR.1 (by rw [sum_cat]; exact hR.2.1) hR.2.2.1 hR.2.2.2 hd (kk p l e1 s m args below meth c H locs ls ad kc D z A hF hC hD)
theorem aw_mmax {index : Nat} {x y : Int32} (hK : KMax T.1 index) (hd : decode T.2.1 pc = .ok (.invokestatic index, 3)) (hR : 1 ≤ T.2.2.2.2.1.frames ∧ (st.map fun v => v.category).sum + 13 ≤ T.2.2.2.2.1.locals ∧ ce ≤ T.2.2.2.2.1.cells ∧ sl ≤ T.2.2.2.2.1.slots) (kk : AW T Q CX (pc + 3) lo (.int (if x < y then y else x) :: st) h n ce sl) : AW T Q CX pc lo (.int y :: .int x :: st) h n ce sl := by
  intro p l e1 s m args below meth c H locs ls ad kc D z A hF hC hD
  exact va_mmax hF.1 hF.2.1 (hF.2.2.1.trans hD.2.2.2.2.2.2.1.symm) hF.2.2.2.1 (hF.2.2.2.2.1 _ hK.1) (hF.2.2.2.2.1 _ hK.2.1) (hF.2.2.2.2.1 _ hK.2.2.1) (hF.2.2.2.2.1 _ hK.2.2.2) hR.1 (by rw [sum_cat]; exact hR.2.1) hR.2.2.1 hR.2.2.2 hd (kk p l e1 s m args below meth c H locs ls ad kc D z A hF hC hD)
def KCp (own : String) (index : Nat) : Prop := Cond.methodLink own index arraycopyName ∈ GW ∧ Cond.native arraycopyName ∈ GW ∧ Cond.static arraycopyName ∈ GW ∧ Cond.initialized "java/lang/System" ∈ GW
theorem aw_copy {index i0 i1 n0 n1 : Nat} {f g : Nat → Int32} {sp dp k : Int32} (hK : KCp T.1 index) (hd : decode T.2.1 pc = .ok (.invokestatic index, 3)) (he0 : h i0 = .inl (0, n0, .inl f)) (he1 : h i1 = .inl (0, n1, .inl g)) (hi0 : i0 < n) (hi1 : i1 < n) (h1 : ¬ sp < 0) (h2 : ¬ dp < 0) (h3 : ¬ k < 0) (h4 : sp.toNatClampNeg + k.toNatClampNeg ≤ n0) (h5 : dp.toNatClampNeg + k.toNatClampNeg ≤ n1)
    (hR : 1 ≤ T.2.2.2.2.1.frames ∧ (st.map fun v => v.category).sum + (nativeFrameWords "java/lang/System" "arraycopy" 5 + 11) ≤ T.2.2.2.2.1.locals) (hh : hset h i1 (.inl (0, n1, .inl (va_cpy f g sp.toNatClampNeg dp.toNatClampNeg k.toNatClampNeg))) = h') (kk : AW T Q CX (pc + 3) lo st h' n ce sl) : AW T Q CX pc lo (.int k :: .int dp :: .ref i1 :: .int sp :: .ref i0 :: st) h n ce sl := by
  intro p l e1 s m args below meth c H locs ls ad kc D z A hF hC hD
  exact va_copyi hF.1 hF.2.1 (hF.2.2.1.trans hD.2.2.2.2.2.2.1.symm) hF.2.2.2.1 (hF.2.2.2.2.1 _ hK.1) (hF.2.2.2.2.1 _ hK.2.1) (hF.2.2.2.2.1 _ hK.2.2.1) (hF.2.2.2.2.1 _ hK.2.2.2) hD.1 hD.2.1 hD.2.2.1 hD.2.2.2.1 i0 i1 0 0 (cW_getE hi0 he0 rfl) (cW_getE hi1 he1 rfl) rfl rfl rfl h1 h2 h3 h4 h5 (fun _ _ => rfl) hR.1 (by rw [sum_cat]; exact hR.2) hd
    (fun H1 locs1 hP1 hD1 hS1 => kk p l e1 s m args below meth c H1 locs1 ls ad kc D z A hF hC (hD.put hi1 hh rfl hP1 hD1 hS1))
end AWrows
