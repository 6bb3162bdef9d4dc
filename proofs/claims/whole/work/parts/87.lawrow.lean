/-! ===== THE LAW: its end, its rows ===== -/
def R_law : String := "CampgroundLaw"
def lw_P (b : Addr) (xs : List Int32) (args : Array Value) (s : State) : Prop := args = #[.ref b] ∧ s.IntsAt b xs ∧ xs.length ≤ 3072 ∧ (Jvm.Cond.and given_1 narrow_1).before args s = true
def lw_Q (_ : Array Value) (s : State) (o : Outcome) (t : State) : Prop := o = .returned (some (.int 1)) ∧ Framed s o t [] 601024 7293034
def lw_Z (below : List Frame) (a : Array Value) (s : State) : State → Prop := fun t => ∃ o, t.status = .running ∧ Ended t below o ∧ lw_Q a s o t
theorem lw_retA {p : Program} {l : Launch} {e : Env} {s : State} {m : MethodId} {args : Array Value} {below : List Frame} {meth : Method} {c : Code} (hx : p.tables.exec = Jvm.exec) (hb : c.code = code) (hr : meth.sig.returnType = ret) (hlocks : meth.locks = false) {pc : Nat} {H : Heap} {ls : Array Slot} (hdg : decode code pc = .ok (.ireturn, 1)) : W p l e room_1 s m args below meth c H [] 601024 7293034 (lw_Z below args s) (F0 m pc ls [.int 1]) := by
  intro T hT X
  obtain ⟨fs, hret, hrun, hended, hW, hframe⟩ := X.leave (v := some (.int 1)) (hlocks := hlocks) (fun h => by rw [hr] at h; cases h)
  have hmeth' : T.vm.method? m = some meth := X.method'
  refine ⟨T.setFrames fs, ?_, .returned (some (.int 1)), hrun, hended, rfl, ⟨_, rfl⟩, hW, hframe⟩
  jvm_step X.here [X.here.top, hx, hb, hdg, hmeth', hr, ret, narrow_b1]
  (try refine ⟨rfl, ?_⟩); (try refine ⟨rfl, ?_⟩)
  first | (intro acts; rw [hret _ acts rfl rfl rfl]) | rw [hret _ _ rfl rfl rfl]
  exact Steps.refl _
abbrev TL : ATy := (RL, code, 7, ret, room_1, false)
def QL : AQ := fun below args s _ _ _ _ => lw_Z below args s
/-- the script -/
def CL (b L : Nat) (xs : Nat → Int32) : AC := fun _ s z A => z.1 900030 = b ∧ va_X b L xs s s.heap ∧ b < s.heap.size ∧ ∀ q, A q ↔ s.heap.size ≤ q
section Lrows
variable {b L : Nat} {xs : Nat → Int32} {pc : Nat} {lo lo' : List (Option Value)} {st : List Value} {h : Nat → AE} {n ce sl : Nat}
theorem aw_lwend (hd : decode code pc = .ok (.ireturn, 1)) (h1 : ce ≤ 601024) (h2 : sl ≤ 7293034) : AW TL QL (CL b L xs) pc lo [.int 1] h n ce sl := by
  intro p l e1 s m args below meth c H locs ls ad kc D z A hF hC hD
  refine W.widen h1 h2 (va_forget (fun q hq => (hC.2.2.2 _).mp (hD.2.2.2.1.2.2 q hq)) ?_)
  exact lw_retA hF.1 hF.2.1 hF.2.2.2.2.2.2.1 hF.2.2.2.2.2.1 hd
theorem aw_sld {j : Int32} (hd : decode code pc = .ok (.iaload, 1)) (hj : vp_in j L) (kk : AW TL QL (CL b L xs) (pc + 1) lo (.int (xs j.toNatClampNeg) :: st) h n ce sl) : AW TL QL (CL b L xs) pc lo (.int j :: .ref 900030 :: st) h n ce sl := by
  intro p l e1 s m args below meth c H locs ls ad kc D z A hF hC hD
  have hb : ad 900030 = b := (hD.2.2.2.2.1 _ (Or.inr (Nat.le_trans hD.2.2.2.2.2.1.2 (by decide)))).trans hC.1
  have hbA : ¬ A b := fun q => absurd ((hC.2.2.2 b).mp q) (Nat.not_le.mpr hC.2.2.1)
  have kk2 := va_sld (cc := code) (rest := st.map (cv ad)) hF.1 hF.2.1 hC.2.1 hC.2.2.1 hbA hD.2.2.2.1 hj hd (kk p l e1 s m args below meth c H locs ls ad kc D z A hF hC hD)
  rw [← hb] at kk2
  exact kk2
theorem aw_scl (hd : decode code pc = .ok (.arraylength, 1)) (kk : AW TL QL (CL b L xs) (pc + 1) lo (.int (nI L) :: st) h n ce sl) : AW TL QL (CL b L xs) pc lo (.ref 900030 :: st) h n ce sl := by
  intro p l e1 s m args below meth c H locs ls ad kc D z A hF hC hD
  have hb : ad 900030 = b := (hD.2.2.2.2.1 _ (Or.inr (Nat.le_trans hD.2.2.2.2.2.1.2 (by decide)))).trans hC.1
  have hbA : ¬ A b := fun q => absurd ((hC.2.2.2 b).mp q) (Nat.not_le.mpr hC.2.2.1)
  have kk2 := va_slen (cc := code) (rest := st.map (cv ad)) hF.1 hF.2.1 hC.2.1 hC.2.2.1 hbA hD.2.2.2.1 hd (kk p l e1 s m args below meth c H locs ls ad kc D z A hF hC hD)
  rw [← hb] at kk2
  exact kk2
theorem aw_tabO {T : ATy} {Q : AQ} {CX : AC} {dflt a c1 : Int} {offs : Array Int} {len : Nat} {x : Int32} (tgt : Nat) (hd : decode T.2.1 pc = .ok (.tableswitch dflt a c1 offs, len)) (hx : x.toInt < a ∨ c1 < x.toInt) (ht : (pc : Int) + dflt = (tgt : Int)) (kk : AW T Q CX tgt lo st h n ce sl) : AW T Q CX pc lo (.int x :: st) h n ce sl := by
  intro p l e1 s m args below meth c H locs ls ad kc D z A hF hC hD
  exact lv_tableOut hF.1 hF.2.1 hd hx ht (kk p l e1 s m args below meth c H locs ls ad kc D z A hF hC hD)
theorem aw_tabI {T : ATy} {Q : AQ} {CX : AC} {dflt a c1 : Int} {offs : Array Int} {len : Nat} {x : Int32} {off : Int} (tgt : Nat) (hd : decode T.2.1 pc = .ok (.tableswitch dflt a c1 offs, len)) (h1 : ¬ x.toInt < a) (h2 : ¬ c1 < x.toInt) (ho : offs[(x.toInt - a).toNat]? = some off) (ht : (pc : Int) + off = (tgt : Int)) (kk : AW T Q CX tgt lo st h n ce sl) : AW T Q CX pc lo (.int x :: st) h n ce sl := by
  intro p l e1 s m args below meth c H locs ls ad kc D z A hF hC hD
  exact lv_tableIn hF.1 hF.2.1 hd h1 h2 ho ht (kk p l e1 s m args below meth c H locs ls ad kc D z A hF hC hD)
theorem nI_pl (a b : Nat) : nI a + nI b = nI (a + b) := (Int32.ofNat_add a b).symm
/-- the script's place i + j -/
theorem lw_arg {i j : Nat} {k : Int} (hL : L ≤ 3072) (hi : i + 6 ≤ L) (hj : Nat.ble j 5 = true) (e0 : lo[0]? = some (some (.ref 900030))) (e4 : lo[4]? = some (some (.int (nI i)))) (hk : Int32.ofInt k = nI j) (d0 : decode code pc = .ok (.aload_n 0, 1)) (d1 : decode code (pc + 1) = .ok (.iload 4, 2)) (d2 : decode code (pc + 3) = .ok (.iconst k, 1)) (d3 : decode code (pc + 4) = .ok (.iadd, 1)) (d4 : decode code (pc + 5) = .ok (.iaload, 1)) (kk : AW TL QL (CL b L xs) (pc + 6) lo (.int (xs (i + j)) :: st) h n ce sl) : AW TL QL (CL b L xs) pc lo st h n ce sl := by
  have h5 := Nat.le_of_ble_eq_true hj
  refine aw_aload_n (T := TL) d0 e0 ?_
  refine aw_iload (T := TL) d1 e4 ?_
  refine aw_iconst (T := TL) d2 hk ?_
  refine aw_iadd (T := TL) d3 ?_
  rw [nI_pl]
  refine aw_sld d4 (in_of rfl (by omega) (by omega)) ?_
  rw [nI_clamp (by omega)]
  exact kk
end Lrows
