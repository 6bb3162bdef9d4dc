def edN (M : Nat → Nat → Int32) (nb nr : Nat) : Nat → Nat → Nat → Int32
  | 0 => M
  | k + 1 => edM (edN M nb nr k) nb nr
theorem edM_c {M : Nat → Nat → Int32} {nb nr p : Nat} (hp : p < 8) (h0 : p ≠ 0) : edM M nb nr 64 p = M 64 p := by
  unfold edM
  rw [w64_at h0, edQ_c hp, edB_c hp]
theorem edN_c {M : Nat → Nat → Int32} {nb nr p : Nat} (hp : p < 8) (h0 : p ≠ 0) : ∀ k, edN M nb nr k 64 p = M 64 p
  | 0 => rfl
  | k + 1 => by rw [edN, edM_c hp h0]; exact edN_c hp h0 k
theorem rs_B {A M : Nat → Nat → Int32} (h : RS A M) {t : Int32} : ∀ k, RS (edB A t k) (edB M t k)
  | 0 => h
  | k + 1 => by
    have e := (rs_B h (t := t) k).1 64 (by decide) (by decide) (by decide)
    rw [edB, edB, V_eq e]
    exact rs_w (rs_B h k)
theorem rs_Q {A M : Nat → Nat → Int32} (h : RS A M) {t : Int32} : ∀ k, RS (edQ A t k) (edQ M t k)
  | 0 => h
  | k + 1 => by
    have e := (rs_Q h (t := t) k).1 64 (by decide) (by decide) (by decide)
    rw [edQ, edQ, V_eq e]
    exact rs_w (rs_Q h k)
theorem rs_M {A M : Nat → Nat → Int32} (h : RS A M) {nb nr : Nat} : RS (edM A nb nr) (edM M nb nr) := by
  have e := h.1 64 (by decide) (by decide) (by decide)
  unfold edM
  rw [e]
  have k := rs_Q (rs_B h (t := A 64 0) nb) (t := A 64 0) nr
  rw [k.1 64 (by decide) (by decide) (by decide)]
  exact rs_w k
theorem rs_N {A M : Nat → Nat → Int32} (h : RS A M) {nb nr : Nat} : ∀ k, RS (edN A nb nr k) (edN M nb nr k)
  | 0 => h
  | k + 1 => rs_M (rs_N h k)