theorem ent_w {a : Nat → Option Nat} {w w' c : Int64} {i : Nat} {r : Nat → Int32} (h : i ≠ 63) : ent (a, w, c) i r = ent (a, w', c) i r := by
  unfold ent
  by_cases h1 : i < 63
  · rw [if_pos h1, if_pos h1]
  · simp only [if_neg h1, if_neg (show ¬ i < 64 by omega)]
/-- the reference's reader within its row -/
def rvR (b : Nat → Int32) (po ts tk le nu ec ep : Int32) : Nat → Int32 := fun j => if j = 11 then po else if j = 12 then ts else if j = 13 then tk else if j = 14 then le else if j = 15 then nu else if j = 16 then ec else if j = 17 then ep else b j
def rvM (M : Nat → Nat → Int32) (po ts tk le nu ec ep : Int32) : Nat → Nat → Int32 := fun i => if i = 63 then rvR (M 63) po ts tk le nu ec ep else M i
def gW (G : AG) (w : Int64) : AG := (G.1, w, G.2.2)
theorem rv_wld {G : AG} {M : Nat → Nat → Int32} : wld G M = wld (gW G G.2.1) (rvM M (M 63 11) (M 63 12) (M 63 13) (M 63 14) (M 63 15) (M 63 16) (M 63 17)) := by
  funext i
  by_cases h : i = 63
  · subst h; rfl
  · simp [wld, rvM, h, gW]
theorem ev_63 {G : AG} {M : Nat → Nat → Int32} {w : Int64} {po ts tk le nu ec ep : Int32} : wld (gW G w) (rvM M po ts tk le nu ec ep) 63 = .inr (10, [.ref 64, .ref 65, .ref 66, .ref 67, .int (M 63 4), .ref 68, .ref 69, .int (M 63 7), .int (M 63 8), .ref 70, .int (M 63 10), .int po, .int ts, .int tk, .int le, .int nu, .int ec, .int ep, .long w]) := rfl
theorem ev_64 {G : AG} {M : Nat → Nat → Int32} {w : Int64} {po ts tk le nu ec ep : Int32} : wld (gW G w) (rvM M po ts tk le nu ec ep) 64 = .inl (0, 572, .inl (M 64)) := rfl
theorem ev_70 {G : AG} {M : Nat → Nat → Int32} {w : Int64} {po ts tk le nu ec ep : Int32} : wld (gW G w) (rvM M po ts tk le nu ec ep) 70 = .inl (0, 500, .inl (M 70)) := rfl
theorem hv_11 {G : AG} {M : Nat → Nat → Int32} {w : Int64} {po ts tk le nu ec ep : Int32} {x : Int32} {fs : List Value} (h : fs = [.ref 64, .ref 65, .ref 66, .ref 67, .int (M 63 4), .ref 68, .ref 69, .int (M 63 7), .int (M 63 8), .ref 70, .int (M 63 10), .int po, .int ts, .int tk, .int le, .int nu, .int ec, .int ep, .long w]) : hset (wld (gW G w) (rvM M po ts tk le nu ec ep)) 63 (.inr (10, fs.set 11 (.int x))) = wld (gW G w) (rvM M x ts tk le nu ec ep) := by
  subst h
  refine (hset_wld (i := 63) (r := rvR (M 63) x ts tk le nu ec ep) rfl).trans ?_; congr 1; funext i; unfold updM rvM; split <;> rfl
theorem hv_12 {G : AG} {M : Nat → Nat → Int32} {w : Int64} {po ts tk le nu ec ep : Int32} {x : Int32} {fs : List Value} (h : fs = [.ref 64, .ref 65, .ref 66, .ref 67, .int (M 63 4), .ref 68, .ref 69, .int (M 63 7), .int (M 63 8), .ref 70, .int (M 63 10), .int po, .int ts, .int tk, .int le, .int nu, .int ec, .int ep, .long w]) : hset (wld (gW G w) (rvM M po ts tk le nu ec ep)) 63 (.inr (10, fs.set 12 (.int x))) = wld (gW G w) (rvM M po x tk le nu ec ep) := by
  subst h
  refine (hset_wld (i := 63) (r := rvR (M 63) po x tk le nu ec ep) rfl).trans ?_; congr 1; funext i; unfold updM rvM; split <;> rfl
theorem hv_13 {G : AG} {M : Nat → Nat → Int32} {w : Int64} {po ts tk le nu ec ep : Int32} {x : Int32} {fs : List Value} (h : fs = [.ref 64, .ref 65, .ref 66, .ref 67, .int (M 63 4), .ref 68, .ref 69, .int (M 63 7), .int (M 63 8), .ref 70, .int (M 63 10), .int po, .int ts, .int tk, .int le, .int nu, .int ec, .int ep, .long w]) : hset (wld (gW G w) (rvM M po ts tk le nu ec ep)) 63 (.inr (10, fs.set 13 (.int x))) = wld (gW G w) (rvM M po ts x le nu ec ep) := by
  subst h
  refine (hset_wld (i := 63) (r := rvR (M 63) po ts x le nu ec ep) rfl).trans ?_; congr 1; funext i; unfold updM rvM; split <;> rfl
theorem hv_14 {G : AG} {M : Nat → Nat → Int32} {w : Int64} {po ts tk le nu ec ep : Int32} {x : Int32} {fs : List Value} (h : fs = [.ref 64, .ref 65, .ref 66, .ref 67, .int (M 63 4), .ref 68, .ref 69, .int (M 63 7), .int (M 63 8), .ref 70, .int (M 63 10), .int po, .int ts, .int tk, .int le, .int nu, .int ec, .int ep, .long w]) : hset (wld (gW G w) (rvM M po ts tk le nu ec ep)) 63 (.inr (10, fs.set 14 (.int x))) = wld (gW G w) (rvM M po ts tk x nu ec ep) := by
  subst h
  refine (hset_wld (i := 63) (r := rvR (M 63) po ts tk x nu ec ep) rfl).trans ?_; congr 1; funext i; unfold updM rvM; split <;> rfl
theorem hv_15 {G : AG} {M : Nat → Nat → Int32} {w : Int64} {po ts tk le nu ec ep : Int32} {x : Int32} {fs : List Value} (h : fs = [.ref 64, .ref 65, .ref 66, .ref 67, .int (M 63 4), .ref 68, .ref 69, .int (M 63 7), .int (M 63 8), .ref 70, .int (M 63 10), .int po, .int ts, .int tk, .int le, .int nu, .int ec, .int ep, .long w]) : hset (wld (gW G w) (rvM M po ts tk le nu ec ep)) 63 (.inr (10, fs.set 15 (.int x))) = wld (gW G w) (rvM M po ts tk le x ec ep) := by
  subst h
  refine (hset_wld (i := 63) (r := rvR (M 63) po ts tk le x ec ep) rfl).trans ?_; congr 1; funext i; unfold updM rvM; split <;> rfl
theorem hv_16 {G : AG} {M : Nat → Nat → Int32} {w : Int64} {po ts tk le nu ec ep : Int32} {x : Int32} {fs : List Value} (h : fs = [.ref 64, .ref 65, .ref 66, .ref 67, .int (M 63 4), .ref 68, .ref 69, .int (M 63 7), .int (M 63 8), .ref 70, .int (M 63 10), .int po, .int ts, .int tk, .int le, .int nu, .int ec, .int ep, .long w]) : hset (wld (gW G w) (rvM M po ts tk le nu ec ep)) 63 (.inr (10, fs.set 16 (.int x))) = wld (gW G w) (rvM M po ts tk le nu x ep) := by
  subst h
  refine (hset_wld (i := 63) (r := rvR (M 63) po ts tk le nu x ep) rfl).trans ?_; congr 1; funext i; unfold updM rvM; split <;> rfl
theorem hv_17 {G : AG} {M : Nat → Nat → Int32} {w : Int64} {po ts tk le nu ec ep : Int32} {x : Int32} {fs : List Value} (h : fs = [.ref 64, .ref 65, .ref 66, .ref 67, .int (M 63 4), .ref 68, .ref 69, .int (M 63 7), .int (M 63 8), .ref 70, .int (M 63 10), .int po, .int ts, .int tk, .int le, .int nu, .int ec, .int ep, .long w]) : hset (wld (gW G w) (rvM M po ts tk le nu ec ep)) 63 (.inr (10, fs.set 17 (.int x))) = wld (gW G w) (rvM M po ts tk le nu ec x) := by
  subst h
  refine (hset_wld (i := 63) (r := rvR (M 63) po ts tk le nu ec x) rfl).trans ?_; congr 1; funext i; unfold updM rvM; split <;> rfl
theorem hv_18 {G : AG} {M : Nat → Nat → Int32} {w : Int64} {po ts tk le nu ec ep : Int32} {x : Int64} {fs : List Value} (h : fs = [.ref 64, .ref 65, .ref 66, .ref 67, .int (M 63 4), .ref 68, .ref 69, .int (M 63 7), .int (M 63 8), .ref 70, .int (M 63 10), .int po, .int ts, .int tk, .int le, .int nu, .int ec, .int ep, .long w]) : hset (wld (gW G w) (rvM M po ts tk le nu ec ep)) 63 (.inr (10, fs.set 18 (.long x))) = wld (gW G x) (rvM M po ts tk le nu ec ep) := by
  subst h
  funext i
  unfold hset wld
  by_cases hi : i = 63
  · subst hi; rfl
  · rw [if_neg hi]; exact ent_w hi
def bA (x : Nat → Int32) (L k : Nat) : Int32 := if k < L then x k else -1
theorem ba_lt {x : Nat → Int32} {L k : Nat} {v : Int32} (h : bA x L k = v) (hv : ¬ v = -1) : k < L ∧ x k = v := by
  unfold bA at h
  split at h
  · rename_i q; exact ⟨q, h⟩
  · exact absurd h.symm hv
theorem ba_in {x : Nat → Int32} {L k : Nat} (h : k < L) : bA x L k = x k := if_pos h
theorem ba_out {x : Nat → Int32} {L k : Nat} (h : ¬ k < L) : bA x L k = -1 := if_neg h
/-- a reader's state: token, start, position, letters, number, code, error's position, word -/
abbrev RV : Type := Int32 × Nat × Nat × Int32 × Int32 × Int32 × Int32 × Int64
def rv (M : Nat → Nat → Int32) (t : RV) : Nat → Nat → Int32 := rvM M (nI t.2.2.1) (nI t.2.1) t.1 t.2.2.2.1 t.2.2.2.2.1 t.2.2.2.2.2.1 t.2.2.2.2.2.2.1
def gv (G : AG) (t : RV) : AG := gW G t.2.2.2.2.2.2.2
def wdF (x : Nat → Int32) (L : Nat) : Nat → Nat → Int32 → Int64 → Int32 × Int64
  | 0, _, l, w => (l, w)
  | f + 1, s, l, w => if s < L ∧ pL x s = true then wdF x L f (s + 1) (l + 1) (if l < 8 then 27 * w + (x s).toInt64 - 96 else w) else (l, w)
def wdR (x : Nat → Int32) (L s : Nat) (l : Int32) (w : Int64) : Int32 × Int64 := wdF x L (L - s) s l w
theorem wd_t {x : Nat → Int32} {L s : Nat} {l : Int32} {w : Int64} (h : s < L) (hp : pL x s = true) : wdR x L s l w = wdR x L (s + 1) (l + 1) (if l < 8 then 27 * w + (x s).toInt64 - 96 else w) := by
  unfold wdR
  rw [show L - s = (L - (s + 1)) + 1 by omega, wdF, if_pos ⟨h, hp⟩]
theorem wd_f {x : Nat → Int32} {L s : Nat} {l : Int32} {w : Int64} (h : ¬ (s < L ∧ pL x s = true)) : wdR x L s l w = (l, w) := by
  unfold wdR
  cases L - s with
  | zero => rfl
  | succ f => rw [wdF, if_neg h]
def dgW (v x : Int32) : Int32 := if 9999 < v then v else 10 * v + x - 48
def nuF (x : Nat → Int32) (L : Nat) : Nat → Nat → Int32 → Int32
  | 0, _, v => v
  | f + 1, s, v => if s < L ∧ pD x s = true then nuF x L f (s + 1) (dgW v (x s)) else v
def nuR (x : Nat → Int32) (L s : Nat) (v : Int32) : Int32 := nuF x L (L - s) s v
theorem nu_t {x : Nat → Int32} {L s : Nat} {v : Int32} (h : s < L) (hp : pD x s = true) : nuR x L s v = nuR x L (s + 1) (dgW v (x s)) := by
  unfold nuR
  rw [show L - s = (L - (s + 1)) + 1 by omega, nuF, if_pos ⟨h, hp⟩]
theorem nu_f {x : Nat → Int32} {L s : Nat} {v : Int32} (h : ¬ (s < L ∧ pD x s = true)) : nuR x L s v = v := by
  unfold nuR
  cases L - s with
  | zero => rfl
  | succ f => rw [nuF, if_neg h]
def tokV (x : Nat → Int32) (L s : Nat) (t : RV) : RV :=
  if L ≤ s then (0, s, s, 0, 0, t.2.2.2.2.2.1, t.2.2.2.2.2.2.1, 0) else if isLt (x s) then (2, s, run (pL x) L s, (wdR x L s 0 0).1, 0, t.2.2.2.2.2.1, t.2.2.2.2.2.2.1, (wdR x L s 0 0).2) else if isDg (x s) then (3, s, run (pD x) L s, 0, nuR x L s 0, t.2.2.2.2.2.1, t.2.2.2.2.2.2.1, 0) else ((if x s = 59 then 4 else 1), s, s + 1, 0, 0, t.2.2.2.2.2.1, t.2.2.2.2.2.2.1, 0)
def stpV (x : Nat → Int32) (L : Nat) (t : RV) : RV := tokV x L (run (pB x) L t.2.2.1) t
set_option maxRecDepth 100000 in
set_option maxHeartbeats 4000000 in
theorem c_X10_byteAt {G : AG} {M : Nat → Nat → Int32} {n : Nat} (hn : 72 ≤ n) {w : Int64} {po ts tk le nu ec ep : Int32} {L : Nat} (hl : M 63 10 = nI L) (hL : L ≤ 500) {i : Int32} {k : Nat} (hk : i = nI k) (hk9 : k < 2 ^ 31) : AMet tX10_byteAt yX10_byteAt [Cond.code yX10_byteAt cX10_byteAt 2 (some .int)] [.ref 63, .int i] (wld (gW G w) (rvM M po ts tk le nu ec ep)) n (PD (.inl (some (.int (bA (M 70) L k)))) (wld (gW G w) (rvM M po ts tk le nu ec ep)) n) := by
  refine am_of (lo := [_, _]) (by decide) rfl (fun q => by cases q) rfl rfl rfl ?_
  refine aw_iload_n dX10_byteAt_0 rfl ?_
  refine aw_aload_n dX10_byteAt_1 rfl ?_
  refine aw_get fl_X10_213 dX10_byteAt_2 ev_63 (l_63 hn) rfl ?_
  refine aw_icmp_ge 17 dX10_byteAt_5 (by decide) (fun c5 => ?_) (fun c5 => ?_)
  · have n5 := Int32.not_lt.mpr c5
    refine aw_iconst (v := -1) dX10_byteAt_17 (by decide) ?_
    refine aw_iret rfl dX10_byteAt_18 (ble' rfl) (ble' rfl) ?_
    exact pd_i (ba_out (Nat.not_lt.mpr (le_of_le hl hk (by omega) hk9 c5))).symm
  · have n5 := Int32.not_le.mp c5
    have hlt : k < L := lt_of_nle hl hk (by omega) hk9 c5
    refine aw_aload_n dX10_byteAt_8 rfl ?_
    refine aw_get fl_X10_29 dX10_byteAt_9 ev_63 (l_63 hn) rfl ?_
    refine aw_iload_n dX10_byteAt_12 rfl ?_
    refine aw_ialdk dX10_byteAt_13 ev_70 (l_70 hn) hk (by omega) rfl ?_
    refine aw_goto 18 dX10_byteAt_14 (by decide) ?_
    refine aw_iret rfl dX10_byteAt_18 (ble' rfl) (ble' rfl) ?_
    exact pd_i (ba_in hlt).symm

set_option maxRecDepth 100000 in
set_option maxHeartbeats 4000000 in
theorem lp_X10_nt1 {G : AG} {M : Nat → Nat → Int32} {n : Nat} (hn : 72 ≤ n) {w : Int64} {L : Nat} (hl : M 63 10 = nI L) (hL : L ≤ 500) {Z : Nat} {ts tk le nu ec ep : Int32} {Po : APost} (kk : AW tX10_nextToken (AQm tX10_nextToken Po) C0 39 [some (.ref 63), none] [] (wld (gW G w) (rvM M (nI Z) ts tk le nu ec ep)) n 0 0) : ∀ (j : Nat) (i : Nat) (po : Int32), L - i < j → i ≤ L → po = nI i → Z = run (pB (M 70)) L i →  AW tX10_nextToken (AQm tX10_nextToken (Po)) C0 0 [some (.ref 63), none] [] (wld (gW G w) (rvM M po ts tk le nu ec ep)) n 0 0 := by
  intro j
  induction j with
  | zero => intro i po h0 hle hi hr; omega
  | succ j ih =>
    intro i po h0 hle hi hr
    refine aw_aload_n dX10_nextToken_0 rfl ?_
    refine aw_aload_n dX10_nextToken_1 rfl ?_
    refine aw_get fl_X10_216 dX10_nextToken_2 ev_63 (l_63 hn) rfl ?_
    refine ap_callVi kv_X10_219 ko_X10_byteAt (c_X10_byteAt hn hl hL hi (by omega)) dX10_nextToken_5 ev_63 (l_63 hn) rfl rfl rfl rfl (ble' rfl) (by decide) ?_
    refine aw_bipush (v := 32) dX10_nextToken_8 (by decide) ?_
    refine aw_icmp_eq 26 dX10_nextToken_10 (by decide) (fun c10 => ?_) (fun c10 => ?_)
    · refine aw_aload_n dX10_nextToken_26 rfl ?_
      refine aw_dup dX10_nextToken_27 rfl ?_
      refine aw_get fl_X10_216 dX10_nextToken_28 ev_63 (l_63 hn) rfl ?_
      refine aw_iconst (v := 1) dX10_nextToken_31 (by decide) ?_
      refine aw_iadd dX10_nextToken_32 ?_
      refine aw_put fp_X10_216_m dX10_nextToken_33 ev_63 (l_63 hn) (ble' rfl) (fun _ => ⟨rfl, rfl⟩) (hv_11 rfl) ?_
      refine aw_goto 0 dX10_nextToken_36 (by decide) ?_
      have hb := ba_lt c10 (by decide)
      exact ih (i + 1) _ (by omega) (by omega) (by rw [hi]; exact nI_1 i) (by rw [hr]; exact run_t hb.1 (by simp [pB, hb.2]))
    · refine aw_aload_n dX10_nextToken_13 rfl ?_
      refine aw_aload_n dX10_nextToken_14 rfl ?_
      refine aw_get fl_X10_216 dX10_nextToken_15 ev_63 (l_63 hn) rfl ?_
      refine ap_callVi kv_X10_219 ko_X10_byteAt (c_X10_byteAt hn hl hL hi (by omega)) dX10_nextToken_18 ev_63 (l_63 hn) rfl rfl rfl rfl (ble' rfl) (by decide) ?_
      refine aw_bipush (v := 10) dX10_nextToken_21 (by decide) ?_
      refine aw_icmp_ne 39 dX10_nextToken_23 (by decide) (fun c23 => ?_) (fun c23 => ?_)
      · have hz : Z = i := hr.trans (run_f (fun q => by have e := ba_in (x := M 70) q.1; rw [e] at c10 c23; have := q.2; simp [pB, c10, c23] at this))
        rw [hi, ← hz]
        exact kk
      · refine aw_aload_n dX10_nextToken_26 rfl ?_
        refine aw_dup dX10_nextToken_27 rfl ?_
        refine aw_get fl_X10_216 dX10_nextToken_28 ev_63 (l_63 hn) rfl ?_
        refine aw_iconst (v := 1) dX10_nextToken_31 (by decide) ?_
        refine aw_iadd dX10_nextToken_32 ?_
        refine aw_put fp_X10_216_m dX10_nextToken_33 ev_63 (l_63 hn) (ble' rfl) (fun _ => ⟨rfl, rfl⟩) (hv_11 rfl) ?_
        refine aw_goto 0 dX10_nextToken_36 (by decide) ?_
        have hb := ba_lt c23 (by decide)
        exact ih (i + 1) _ (by omega) (by omega) (by rw [hi]; exact nI_1 i) (by rw [hr]; exact run_t hb.1 (by simp [pB, hb.2]))

set_option maxRecDepth 100000 in
set_option maxHeartbeats 4000000 in
theorem lp_X10_nt2 {G : AG} {M : Nat → Nat → Int32} {n : Nat} (hn : 72 ≤ n) {L : Nat} (hl : M 63 10 = nI L) (hL : L ≤ 500) {Z : Nat} {E : Int32 × Int64} {ts tk nu ec ep : Int32} {x1 : Option Value} {Po : APost} (kk : Po (.inl none) (wld (gW G E.2) (rvM M (nI Z) ts tk E.1 nu ec ep)) n) : ∀ (j : Nat) (i : Nat) (po le : Int32) (w : Int64), L - i < j → i ≤ L → po = nI i → Z = run (pL (M 70)) L i → wdR (M 70) L i le w = E →  AW tX10_nextToken (AQm tX10_nextToken (Po)) C0 96 [some (.ref 63), x1] [] (wld (gW G w) (rvM M po ts tk le nu ec ep)) n 0 0 := by
  intro j
  induction j with
  | zero => intro i po le w h0 hle hi hr hw; omega
  | succ j ih =>
    intro i po le w h0 hle hi hr hw
    refine aw_aload_n dX10_nextToken_96 rfl ?_
    refine aw_aload_n dX10_nextToken_97 rfl ?_
    refine aw_get fl_X10_216 dX10_nextToken_98 ev_63 (l_63 hn) rfl ?_
    refine ap_callVi kv_X10_219 ko_X10_byteAt (c_X10_byteAt hn hl hL hi (by omega)) dX10_nextToken_101 ev_63 (l_63 hn) rfl rfl rfl rfl (ble' rfl) (by decide) ?_
    refine ap_callSi ks_X10_238 ko_X10_isLetter (c_X10_isLetter _) dX10_nextToken_104 rfl rfl (ble' rfl) (by decide) ?_
    refine aw_if_eq 279 dX10_nextToken_107 (by decide) (fun c107 => ?_) (fun c107 => ?_)
    · have n107 := bI_z.mp c107
      refine aw_vret rfl dX10_nextToken_279 (ble' rfl) (ble' rfl) ?_
      have hne : ¬ (i < L ∧ pL (M 70) i = true) := fun q => n107 (by rw [ba_in q.1]; exact of_decide_eq_true q.2)
      have hz : Z = i := hr.trans (run_f hne)
      rw [wd_f hne] at hw
      cases hw
      rw [hi, ← hz]
      exact kk
    · have n107 := bI_nz.mp c107
      have hlt : i < L := Classical.byContradiction (fun q => by rw [ba_out q] at n107; exact absurd n107.1 (by decide))
      rw [ba_in hlt] at n107
      have hp : pL (M 70) i = true := decide_eq_true n107
      refine aw_aload_n dX10_nextToken_110 rfl ?_
      refine aw_aload_n dX10_nextToken_111 rfl ?_
      refine aw_get fl_X10_225 dX10_nextToken_112 ev_63 (l_63 hn) rfl ?_
      refine aw_bipush (v := 8) dX10_nextToken_115 (by decide) ?_
      refine aw_icmp_ge 145 dX10_nextToken_117 (by decide) (fun c117 => ?_) (fun c117 => ?_)
      · have n117 := Int32.not_lt.mpr c117
        refine aw_aload_n dX10_nextToken_145 rfl ?_
        refine aw_get fl_X10_228 dX10_nextToken_146 ev_63 (l_63 hn) rfl ?_
        refine aw_put fp_X10_228_m dX10_nextToken_149 ev_63 (l_63 hn) (ble' rfl) (fun _ => ⟨rfl, rfl⟩) (hv_18 rfl) ?_
        refine aw_aload_n dX10_nextToken_152 rfl ?_
        refine aw_dup dX10_nextToken_153 rfl ?_
        refine aw_get fl_X10_225 dX10_nextToken_154 ev_63 (l_63 hn) rfl ?_
        refine aw_iconst (v := 1) dX10_nextToken_157 (by decide) ?_
        refine aw_iadd dX10_nextToken_158 ?_
        refine aw_put fp_X10_225_m dX10_nextToken_159 ev_63 (l_63 hn) (ble' rfl) (fun _ => ⟨rfl, rfl⟩) (hv_14 rfl) ?_
        refine aw_aload_n dX10_nextToken_162 rfl ?_
        refine aw_dup dX10_nextToken_163 rfl ?_
        refine aw_get fl_X10_216 dX10_nextToken_164 ev_63 (l_63 hn) rfl ?_
        refine aw_iconst (v := 1) dX10_nextToken_167 (by decide) ?_
        refine aw_iadd dX10_nextToken_168 ?_
        refine aw_put fp_X10_216_m dX10_nextToken_169 ev_63 (l_63 hn) (ble' rfl) (fun _ => ⟨rfl, rfl⟩) (hv_11 rfl) ?_
        refine aw_goto 96 dX10_nextToken_172 (by decide) ?_
        rw [wd_t hlt hp, if_neg (Int32.not_lt.mpr c117)] at hw
        refine aw_heq (h' := (wld (gW G w) (rvM M (po + 1) ts tk (le + 1) nu ec ep))) (by rfl) ?_
        exact ih (i + 1) _ _ _ (by omega) (by omega) (by rw [hi]; exact nI_1 i) (by rw [hr]; exact run_t hlt hp) hw
      · have n117 := Int32.not_le.mp c117
        refine aw_ldc2 (v := 27) (gw_at 1812 (by decide +kernel) rfl) dX10_nextToken_120 ?_
        refine aw_aload_n dX10_nextToken_123 rfl ?_
        refine aw_get fl_X10_228 dX10_nextToken_124 ev_63 (l_63 hn) rfl ?_
        refine aw_lmul dX10_nextToken_127 ?_
        refine aw_aload_n dX10_nextToken_128 rfl ?_
        refine aw_aload_n dX10_nextToken_129 rfl ?_
        refine aw_get fl_X10_216 dX10_nextToken_130 ev_63 (l_63 hn) rfl ?_
        refine ap_callVi kv_X10_219 ko_X10_byteAt (c_X10_byteAt hn hl hL hi (by omega)) dX10_nextToken_133 ev_63 (l_63 hn) rfl rfl rfl rfl (ble' rfl) (by decide) ?_
        refine aw_i2l dX10_nextToken_136 ?_
        refine aw_ladd dX10_nextToken_137 ?_
        refine aw_ldc2 (v := 96) (gw_at 1813 (by decide +kernel) rfl) dX10_nextToken_138 ?_
        refine aw_lsub dX10_nextToken_141 ?_
        refine aw_goto 149 dX10_nextToken_142 (by decide) ?_
        refine aw_put fp_X10_228_m dX10_nextToken_149 ev_63 (l_63 hn) (ble' rfl) (fun _ => ⟨rfl, rfl⟩) (hv_18 rfl) ?_
        refine aw_aload_n dX10_nextToken_152 rfl ?_
        refine aw_dup dX10_nextToken_153 rfl ?_
        refine aw_get fl_X10_225 dX10_nextToken_154 ev_63 (l_63 hn) rfl ?_
        refine aw_iconst (v := 1) dX10_nextToken_157 (by decide) ?_
        refine aw_iadd dX10_nextToken_158 ?_
        refine aw_put fp_X10_225_m dX10_nextToken_159 ev_63 (l_63 hn) (ble' rfl) (fun _ => ⟨rfl, rfl⟩) (hv_14 rfl) ?_
        refine aw_aload_n dX10_nextToken_162 rfl ?_
        refine aw_dup dX10_nextToken_163 rfl ?_
        refine aw_get fl_X10_216 dX10_nextToken_164 ev_63 (l_63 hn) rfl ?_
        refine aw_iconst (v := 1) dX10_nextToken_167 (by decide) ?_
        refine aw_iadd dX10_nextToken_168 ?_
        refine aw_put fp_X10_216_m dX10_nextToken_169 ev_63 (l_63 hn) (ble' rfl) (fun _ => ⟨rfl, rfl⟩) (hv_11 rfl) ?_
        refine aw_goto 96 dX10_nextToken_172 (by decide) ?_
        rw [wd_t hlt hp, if_pos (Int32.not_le.mp c117)] at hw
        refine aw_heq (h' := (wld (gW G (27 * w + (M 70 i).toInt64 - 96)) (rvM M (po + 1) ts tk (le + 1) nu ec ep))) (by rw [ba_in hlt]) ?_
        exact ih (i + 1) _ _ _ (by omega) (by omega) (by rw [hi]; exact nI_1 i) (by rw [hr]; exact run_t hlt hp) hw

set_option maxRecDepth 100000 in
set_option maxHeartbeats 4000000 in
theorem lp_X10_nt3 {G : AG} {M : Nat → Nat → Int32} {n : Nat} (hn : 72 ≤ n) {w : Int64} {L : Nat} (hl : M 63 10 = nI L) (hL : L ≤ 500) {Z : Nat} {E : Int32} {ts tk le ec ep : Int32} {x1 : Option Value} {Po : APost} (kk : Po (.inl none) (wld (gW G w) (rvM M (nI Z) ts tk le E ec ep)) n) : ∀ (j : Nat) (i : Nat) (po nu : Int32), L - i < j → i ≤ L → po = nI i → Z = run (pD (M 70)) L i → nuR (M 70) L i nu = E →  AW tX10_nextToken (AQm tX10_nextToken (Po)) C0 187 [some (.ref 63), x1] [] (wld (gW G w) (rvM M po ts tk le nu ec ep)) n 0 0 := by
  intro j
  induction j with
  | zero => intro i po nu h0 hle hi hr hw; omega
  | succ j ih =>
    intro i po nu h0 hle hi hr hw
    refine aw_aload_n dX10_nextToken_187 rfl ?_
    refine aw_aload_n dX10_nextToken_188 rfl ?_
    refine aw_get fl_X10_216 dX10_nextToken_189 ev_63 (l_63 hn) rfl ?_
    refine ap_callVi kv_X10_219 ko_X10_byteAt (c_X10_byteAt hn hl hL hi (by omega)) dX10_nextToken_192 ev_63 (l_63 hn) rfl rfl rfl rfl (ble' rfl) (by decide) ?_
    refine ap_callSi ks_X10_245 ko_X10_isDigit (c_X10_isDigit _) dX10_nextToken_195 rfl rfl (ble' rfl) (by decide) ?_
    refine aw_if_eq 279 dX10_nextToken_198 (by decide) (fun c198 => ?_) (fun c198 => ?_)
    · have n198 := bI_z.mp c198
      refine aw_vret rfl dX10_nextToken_279 (ble' rfl) (ble' rfl) ?_
      have hne : ¬ (i < L ∧ pD (M 70) i = true) := fun q => n198 (by rw [ba_in q.1]; exact of_decide_eq_true q.2)
      have hz : Z = i := hr.trans (run_f hne)
      rw [nu_f hne] at hw
      subst hw
      rw [hi, ← hz]
      exact kk
    · have n198 := bI_nz.mp c198
      have hlt : i < L := Classical.byContradiction (fun q => by rw [ba_out q] at n198; exact absurd n198.1 (by decide))
      rw [ba_in hlt] at n198
      have hp : pD (M 70) i = true := decide_eq_true n198
      refine aw_aload_n dX10_nextToken_201 rfl ?_
      refine aw_aload_n dX10_nextToken_202 rfl ?_
      refine aw_get fl_X10_232 dX10_nextToken_203 ev_63 (l_63 hn) rfl ?_
      refine aw_sipush (v := 9999) dX10_nextToken_206 (by decide) ?_
      refine aw_icmp_le 219 dX10_nextToken_209 (by decide) (fun c209 => ?_) (fun c209 => ?_)
      · have n209 := Int32.not_lt.mpr c209
        refine aw_bipush (v := 10) dX10_nextToken_219 (by decide) ?_
        refine aw_aload_n dX10_nextToken_221 rfl ?_
        refine aw_get fl_X10_232 dX10_nextToken_222 ev_63 (l_63 hn) rfl ?_
        refine aw_imul dX10_nextToken_225 ?_
        refine aw_aload_n dX10_nextToken_226 rfl ?_
        refine aw_aload_n dX10_nextToken_227 rfl ?_
        refine aw_get fl_X10_216 dX10_nextToken_228 ev_63 (l_63 hn) rfl ?_
        refine ap_callVi kv_X10_219 ko_X10_byteAt (c_X10_byteAt hn hl hL hi (by omega)) dX10_nextToken_231 ev_63 (l_63 hn) rfl rfl rfl rfl (ble' rfl) (by decide) ?_
        refine aw_iadd dX10_nextToken_234 ?_
        refine aw_bipush (v := 48) dX10_nextToken_235 (by decide) ?_
        refine aw_isub dX10_nextToken_237 ?_
        refine aw_put fp_X10_232_m dX10_nextToken_238 ev_63 (l_63 hn) (ble' rfl) (fun _ => ⟨rfl, rfl⟩) (hv_15 rfl) ?_
        refine aw_aload_n dX10_nextToken_241 rfl ?_
        refine aw_dup dX10_nextToken_242 rfl ?_
        refine aw_get fl_X10_216 dX10_nextToken_243 ev_63 (l_63 hn) rfl ?_
        refine aw_iconst (v := 1) dX10_nextToken_246 (by decide) ?_
        refine aw_iadd dX10_nextToken_247 ?_
        refine aw_put fp_X10_216_m dX10_nextToken_248 ev_63 (l_63 hn) (ble' rfl) (fun _ => ⟨rfl, rfl⟩) (hv_11 rfl) ?_
        refine aw_goto 187 dX10_nextToken_251 (by decide) ?_
        rw [nu_t hlt hp, dgW, if_neg n209] at hw
        refine aw_heq (h' := (wld (gW G w) (rvM M (po + 1) ts tk le (10 * nu + M 70 i - 48) ec ep))) (by rw [ba_in hlt]) ?_
        exact ih (i + 1) _ _ (by omega) (by omega) (by rw [hi]; exact nI_1 i) (by rw [hr]; exact run_t hlt hp) hw
      · have n209 := Int32.not_le.mp c209
        refine aw_aload_n dX10_nextToken_212 rfl ?_
        refine aw_get fl_X10_232 dX10_nextToken_213 ev_63 (l_63 hn) rfl ?_
        refine aw_goto 238 dX10_nextToken_216 (by decide) ?_
        refine aw_put fp_X10_232_m dX10_nextToken_238 ev_63 (l_63 hn) (ble' rfl) (fun _ => ⟨rfl, rfl⟩) (hv_15 rfl) ?_
        refine aw_aload_n dX10_nextToken_241 rfl ?_
        refine aw_dup dX10_nextToken_242 rfl ?_
        refine aw_get fl_X10_216 dX10_nextToken_243 ev_63 (l_63 hn) rfl ?_
        refine aw_iconst (v := 1) dX10_nextToken_246 (by decide) ?_
        refine aw_iadd dX10_nextToken_247 ?_
        refine aw_put fp_X10_216_m dX10_nextToken_248 ev_63 (l_63 hn) (ble' rfl) (fun _ => ⟨rfl, rfl⟩) (hv_11 rfl) ?_
        refine aw_goto 187 dX10_nextToken_251 (by decide) ?_
        rw [nu_t hlt hp, dgW, if_pos n209] at hw
        refine aw_heq (h' := (wld (gW G w) (rvM M (po + 1) ts tk le nu ec ep))) (by rfl) ?_
        exact ih (i + 1) _ _ (by omega) (by omega) (by rw [hi]; exact nI_1 i) (by rw [hr]; exact run_t hlt hp) hw

set_option maxRecDepth 100000 in
set_option maxHeartbeats 4000000 in
theorem c_X10_nextToken {G : AG} {M : Nat → Nat → Int32} {n : Nat} (hn : 72 ≤ n) {L : Nat} (hl : M 63 10 = nI L) (hL : L ≤ 500) (hx : ∀ i, i < 500 → ¬ M 70 i = -1) {t : RV} (hE : t.2.2.1 ≤ L) : AMet tX10_nextToken yX10_nextToken [Cond.code yX10_nextToken cX10_nextToken 2 none] [.ref 63] (wld (gv G t) (rv M t)) n (PD (.inl none) (wld (gv G (stpV (M 70) L t)) (rv M (stpV (M 70) L t))) n) := by
  obtain ⟨tk, ts, po, le, nu, ec, ep, w⟩ := t
  simp only at hE
  refine am_of (lo := [_, _]) (by decide) rfl (fun q => by cases q) rfl rfl rfl ?_
  refine lp_X10_nt1 (Z := run (pB (M 70)) L po) hn hl hL ?_ (L + 1) po _ (by omega) hE rfl rfl
  have hZ := (run_le (p := pB (M 70)) (show po ≤ L from hE)).2
  obtain ⟨Z, hZe⟩ : ∃ Z, Z = run (pB (M 70)) L po := ⟨_, rfl⟩
  rw [← hZe] at hZ ⊢
  refine aw_aload_n dX10_nextToken_39 rfl ?_
  refine aw_aload_n dX10_nextToken_40 rfl ?_
  refine aw_get fl_X10_216 dX10_nextToken_41 ev_63 (l_63 hn) rfl ?_
  refine aw_put fp_X10_222_m dX10_nextToken_44 ev_63 (l_63 hn) (ble' rfl) (fun _ => ⟨rfl, rfl⟩) (hv_12 rfl) ?_
  refine aw_aload_n dX10_nextToken_47 rfl ?_
  refine aw_iconst (v := 0) dX10_nextToken_48 (by decide) ?_
  refine aw_put fp_X10_225_m dX10_nextToken_49 ev_63 (l_63 hn) (ble' rfl) (fun _ => ⟨rfl, rfl⟩) (hv_14 rfl) ?_
  refine aw_aload_n dX10_nextToken_52 rfl ?_
  refine aw_lconst (v := 0) dX10_nextToken_53 (by decide) ?_
  refine aw_put fp_X10_228_m dX10_nextToken_54 ev_63 (l_63 hn) (ble' rfl) (fun _ => ⟨rfl, rfl⟩) (hv_18 rfl) ?_
  refine aw_aload_n dX10_nextToken_57 rfl ?_
  refine aw_iconst (v := 0) dX10_nextToken_58 (by decide) ?_
  refine aw_put fp_X10_232_m dX10_nextToken_59 ev_63 (l_63 hn) (ble' rfl) (fun _ => ⟨rfl, rfl⟩) (hv_15 rfl) ?_
  refine aw_aload_n dX10_nextToken_62 rfl ?_
  refine aw_aload_n dX10_nextToken_63 rfl ?_
  refine aw_get fl_X10_216 dX10_nextToken_64 ev_63 (l_63 hn) rfl ?_
  refine ap_callVi kv_X10_219 ko_X10_byteAt (c_X10_byteAt hn hl hL (k := Z) rfl (by omega)) dX10_nextToken_67 ev_63 (l_63 hn) rfl rfl rfl rfl (ble' rfl) (by decide) ?_
  refine aw_istore_n (lo' := [_, some (.int _)]) dX10_nextToken_70 (by decide) rfl ?_
  refine aw_iload_n dX10_nextToken_71 rfl ?_
  refine aw_iconst (v := -1) dX10_nextToken_72 (by decide) ?_
  refine aw_icmp_ne 84 dX10_nextToken_73 (by decide) (fun c73 => ?_) (fun c73 => ?_)
  · have hlt : Z < L := Classical.byContradiction (fun q => c73 (ba_out q))
    have hZL : ¬ L ≤ Z := by omega
    rw [ba_in hlt]
    refine aw_iload_n dX10_nextToken_84 rfl ?_
    refine ap_callSi ks_X10_238 ko_X10_isLetter (c_X10_isLetter _) dX10_nextToken_85 rfl rfl (ble' rfl) (by decide) ?_
    refine aw_if_eq 175 dX10_nextToken_88 (by decide) (fun c88 => ?_) (fun c88 => ?_)
    · have n88 := bI_z.mp c88
      refine aw_iload_n dX10_nextToken_175 rfl ?_
      refine ap_callSi ks_X10_245 ko_X10_isDigit (c_X10_isDigit _) dX10_nextToken_176 rfl rfl (ble' rfl) (by decide) ?_
      refine aw_if_eq 254 dX10_nextToken_179 (by decide) (fun c179 => ?_) (fun c179 => ?_)
      · have n179 := bI_z.mp c179
        refine aw_aload_n dX10_nextToken_254 rfl ?_
        refine aw_iload_n dX10_nextToken_255 rfl ?_
        refine aw_bipush (v := 59) dX10_nextToken_256 (by decide) ?_
        refine aw_icmp_ne 265 dX10_nextToken_258 (by decide) (fun c258 => ?_) (fun c258 => ?_)
        · refine aw_iconst (v := 1) dX10_nextToken_265 (by decide) ?_
          refine aw_put fp_X10_235_m dX10_nextToken_266 ev_63 (l_63 hn) (ble' rfl) (fun _ => ⟨rfl, rfl⟩) (hv_13 rfl) ?_
          refine aw_aload_n dX10_nextToken_269 rfl ?_
          refine aw_dup dX10_nextToken_270 rfl ?_
          refine aw_get fl_X10_216 dX10_nextToken_271 ev_63 (l_63 hn) rfl ?_
          refine aw_iconst (v := 1) dX10_nextToken_274 (by decide) ?_
          refine aw_iadd dX10_nextToken_275 ?_
          refine aw_put fp_X10_216_m dX10_nextToken_276 ev_63 (l_63 hn) (ble' rfl) (fun _ => ⟨rfl, rfl⟩) (hv_11 rfl) ?_
          refine aw_vret rfl dX10_nextToken_279 (ble' rfl) (ble' rfl) ?_
          exact pd_v (by simp only [rv, gv, stpV, tokV]; rw [← hZe]; rw [if_neg hZL, if_neg n88, if_neg n179, if_neg c258, nI_1])
        · refine aw_iconst (v := 4) dX10_nextToken_261 (by decide) ?_
          refine aw_goto 266 dX10_nextToken_262 (by decide) ?_
          refine aw_put fp_X10_235_m dX10_nextToken_266 ev_63 (l_63 hn) (ble' rfl) (fun _ => ⟨rfl, rfl⟩) (hv_13 rfl) ?_
          refine aw_aload_n dX10_nextToken_269 rfl ?_
          refine aw_dup dX10_nextToken_270 rfl ?_
          refine aw_get fl_X10_216 dX10_nextToken_271 ev_63 (l_63 hn) rfl ?_
          refine aw_iconst (v := 1) dX10_nextToken_274 (by decide) ?_
          refine aw_iadd dX10_nextToken_275 ?_
          refine aw_put fp_X10_216_m dX10_nextToken_276 ev_63 (l_63 hn) (ble' rfl) (fun _ => ⟨rfl, rfl⟩) (hv_11 rfl) ?_
          refine aw_vret rfl dX10_nextToken_279 (ble' rfl) (ble' rfl) ?_
          exact pd_v (by simp only [rv, gv, stpV, tokV]; rw [← hZe]; rw [if_neg hZL, if_neg n88, if_neg n179, if_pos c258, nI_1])
      · have n179 := bI_nz.mp c179
        refine aw_aload_n dX10_nextToken_182 rfl ?_
        refine aw_iconst (v := 3) dX10_nextToken_183 (by decide) ?_
        refine aw_put fp_X10_235_m dX10_nextToken_184 ev_63 (l_63 hn) (ble' rfl) (fun _ => ⟨rfl, rfl⟩) (hv_13 rfl) ?_
        exact lp_X10_nt3 hn hl hL (E := nuR (M 70) L Z 0) (pd_v (by simp only [rv, gv, stpV, tokV]; rw [← hZe]; rw [if_neg hZL, if_neg n88, if_pos n179])) (L + 1) Z _ _ (by omega) hZ rfl rfl rfl
    · have n88 := bI_nz.mp c88
      refine aw_aload_n dX10_nextToken_91 rfl ?_
      refine aw_iconst (v := 2) dX10_nextToken_92 (by decide) ?_
      refine aw_put fp_X10_235_m dX10_nextToken_93 ev_63 (l_63 hn) (ble' rfl) (fun _ => ⟨rfl, rfl⟩) (hv_13 rfl) ?_
      exact lp_X10_nt2 hn hl hL (E := wdR (M 70) L Z 0 0) (pd_v (by simp only [rv, gv, stpV, tokV]; rw [← hZe]; rw [if_neg hZL, if_pos n88])) (L + 1) Z _ _ _ (by omega) hZ rfl rfl rfl
  · have hge : L ≤ Z := Classical.byContradiction (fun q => hx Z (by omega) (by rw [ba_in (by omega)] at c73; exact c73))
    refine aw_aload_n dX10_nextToken_76 rfl ?_
    refine aw_iconst (v := 0) dX10_nextToken_77 (by decide) ?_
    refine aw_put fp_X10_235_m dX10_nextToken_78 ev_63 (l_63 hn) (ble' rfl) (fun _ => ⟨rfl, rfl⟩) (hv_13 rfl) ?_
    refine aw_goto 279 dX10_nextToken_81 (by decide) ?_
    refine aw_vret rfl dX10_nextToken_279 (ble' rfl) (ble' rfl) ?_
    exact pd_v (by simp only [rv, gv, stpV, tokV]; rw [← hZe]; rw [if_pos hge])
