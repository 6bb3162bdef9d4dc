def enR (a d s t : Int32) : Int32 := if s = 0 ∧ a ≤ t then 4 else if s = 1 ∧ d = t + 1 then 2 else s
def edB (M : Nat → Nat → Int32) (t : Int32) : Nat → Nat → Nat → Int32
  | 0 => M
  | k + 1 => w64 (edB M t k) (112 + 6 * k + 4) (enR (V (edB M t k) 17 k) (V (edB M t k) 18 k) (V (edB M t k) 20 k) t)
def edQ (M : Nat → Nat → Int32) (t : Int32) : Nat → Nat → Nat → Int32
  | 0 => M
  | k + 1 => w64 (edQ M t k) (472 + 5 * k + 3) (if V (edQ M t k) 26 k = 0 ∧ V (edQ M t k) 24 k ≤ t then 3 else V (edQ M t k) 26 k)
theorem edB_c {M : Nat → Nat → Int32} {t : Int32} {p : Nat} (hp : p < 8) : ∀ k, edB M t k 64 p = M 64 p
  | 0 => rfl
  | k + 1 => by rw [edB, w64_at (by omega)]; exact edB_c hp k
theorem edQ_c {M : Nat → Nat → Int32} {t : Int32} {p : Nat} (hp : p < 8) : ∀ k, edQ M t k 64 p = M 64 p
  | 0 => rfl
  | k + 1 => by rw [edQ, w64_at (by omega)]; exact edQ_c hp k
set_option maxRecDepth 100000 in
set_option maxHeartbeats 4000000 in
theorem lp_X10_endDay1 {G : AG} {M : Nat → Nat → Int32} {n : Nat} (hn : 72 ≤ n) {nb : Nat} (hb : M 64 4 = nI nb) (hbl : nb ≤ 60) {t : Int32} {Po : APost} (kk : AW tX10_endDay (AQm tX10_endDay Po) C0 108 [some (.ref 63), some (.int t), none, none, none] [] (wld G (edB M t nb)) n 0 0) : ∀ (j k : Nat) (x2 : Int32), nb - k < j → k ≤ nb → x2 = nI k →  AW tX10_endDay (AQm tX10_endDay (Po)) C0 9 [some (.ref 63), some (.int t), some (.int x2), none, none] [] (wld G (edB M t k)) n 0 0 := by
  intro j
  induction j with
  | zero => intro k x2 h0; omega
  | succ j ih =>
    intro k x2 h0 hk h2
    have hb2 : (edB M t k) 64 4 = nI nb := (edB_c (by decide) k).trans hb
    refine aw_iload_n dX10_endDay_9 rfl ?_
    refine aw_aload_n dX10_endDay_10 rfl ?_
    refine aw_get fl_X10_7 dX10_endDay_11 e_63 (l_63 hn) rfl ?_
    refine aw_iconst (v := 4) dX10_endDay_14 (by decide) ?_
    refine aw_ialdk dX10_endDay_15 e_64 (l_64 hn) (show (4 : Int32) = nI 4 from rfl) (by decide) rfl ?_
    refine aw_icmp_ge 108 dX10_endDay_16 (by decide) (fun c16 => ?_) (fun c16 => ?_)
    · have n16 := Int32.not_lt.mpr c16
      have hke : k = nb := Nat.le_antisymm hk (le_of_le hb2 h2 (by omega) (by omega) c16)
      rw [hke]
      refine aw_lo2 (lo' := [some (.ref 63), some (.int t), none, none, none]) ⟨rfl, rfl, trivial⟩ ?_
      exact kk
    · have n16 := Int32.not_le.mp c16
      have hlt : k < nb := lt_of_nle hb2 h2 (by omega) (by omega) c16
      refine aw_aload_n dX10_endDay_19 rfl ?_
      refine aw_iload_n dX10_endDay_20 rfl ?_
      refine aw_iconst (v := 4) dX10_endDay_21 (by decide) ?_
      refine ap_callVi kv_X10_102 ko_X10_booking (c_X10_booking_4 hn h2 (by omega)) dX10_endDay_22 e_63 (l_63 hn) rfl rfl rfl rfl (ble' rfl) (by decide) ?_
      refine aw_if_ne 42 dX10_endDay_25 (by decide) (fun c25 => ?_) (fun c25 => ?_)
      · refine aw_iconst (v := 0) dX10_endDay_42 (by decide) ?_
        refine aw_istore_n (lo' := [_, _, _, some (.int _), _]) dX10_endDay_43 (by decide) rfl ?_
        refine aw_aload_n dX10_endDay_44 rfl ?_
        refine aw_iload_n dX10_endDay_45 rfl ?_
        refine aw_iconst (v := 4) dX10_endDay_46 (by decide) ?_
        refine ap_callVi kv_X10_102 ko_X10_booking (c_X10_booking_4 hn h2 (by omega)) dX10_endDay_47 e_63 (l_63 hn) rfl rfl rfl rfl (ble' rfl) (by decide) ?_
        refine aw_iconst (v := 1) dX10_endDay_50 (by decide) ?_
        refine aw_icmp_ne 70 dX10_endDay_51 (by decide) (fun c51 => ?_) (fun c51 => ?_)
        · refine aw_iconst (v := 0) dX10_endDay_70 (by decide) ?_
          refine aw_istore (lo' := [_, _, _, _, some (.int _)]) dX10_endDay_71 (by decide) rfl ?_
          refine aw_aload_n dX10_endDay_73 rfl ?_
          refine aw_iload_n dX10_endDay_74 rfl ?_
          refine aw_iconst (v := 4) dX10_endDay_75 (by decide) ?_
          refine aw_iload_n dX10_endDay_76 rfl ?_
          refine aw_if_eq 84 dX10_endDay_77 (by decide) (fun _ => ?_) (fun q => absurd q (by decide))
          refine aw_iload dX10_endDay_84 rfl ?_
          refine aw_if_eq 93 dX10_endDay_86 (by decide) (fun _ => ?_) (fun q => absurd q (by decide))
          refine aw_aload_n dX10_endDay_93 rfl ?_
          refine aw_iload_n dX10_endDay_94 rfl ?_
          refine aw_iconst (v := 4) dX10_endDay_95 (by decide) ?_
          refine ap_callVi kv_X10_102 ko_X10_booking (c_X10_booking_4 hn h2 (by omega)) dX10_endDay_96 e_63 (l_63 hn) rfl rfl rfl rfl (ble' rfl) (by decide) ?_
          refine ap_callVv kv_X10_134 ko_X10_setBooking (c_X10_setBooking (M := edB M t k) hn h2 (by omega) (show (4 : Int32) = nI 4 from rfl) (by decide) _) dX10_endDay_99 e_63 (l_63 hn) rfl rfl rfl rfl (ble' rfl) (by decide) ?_
          refine aw_iinc (lo' := [_, _, some (.int _), _, _]) dX10_endDay_102 rfl (by decide) rfl ?_
          refine aw_goto 9 dX10_endDay_105 (by decide) ?_
          refine aw_lo2 (lo' := [some (.ref 63), some (.int t), some (.int _), none, none]) ⟨rfl, rfl, rfl, trivial⟩ ?_
          refine aw_heq (h' := wld G (edB M t (k + 1))) (by rw [edB]; congr 2; exact (by rw [enR, if_neg (fun q => c25 q.1), if_neg (fun q => c51 q.1)])) ?_
          exact ih (k + 1) _ (by omega) (by omega) (by rw [h2]; exact inc1 k)
        · refine aw_aload_n dX10_endDay_54 rfl ?_
          refine aw_iload_n dX10_endDay_55 rfl ?_
          refine aw_iconst (v := 2) dX10_endDay_56 (by decide) ?_
          refine ap_callVi kv_X10_102 ko_X10_booking (c_X10_booking_2 hn h2 (by omega)) dX10_endDay_57 e_63 (l_63 hn) rfl rfl rfl rfl (ble' rfl) (by decide) ?_
          refine aw_iload_n dX10_endDay_60 rfl ?_
          refine aw_iconst (v := 1) dX10_endDay_61 (by decide) ?_
          refine aw_iadd dX10_endDay_62 ?_
          refine aw_icmp_ne 70 dX10_endDay_63 (by decide) (fun c63 => ?_) (fun c63 => ?_)
          · refine aw_iconst (v := 0) dX10_endDay_70 (by decide) ?_
            refine aw_istore (lo' := [_, _, _, _, some (.int _)]) dX10_endDay_71 (by decide) rfl ?_
            refine aw_aload_n dX10_endDay_73 rfl ?_
            refine aw_iload_n dX10_endDay_74 rfl ?_
            refine aw_iconst (v := 4) dX10_endDay_75 (by decide) ?_
            refine aw_iload_n dX10_endDay_76 rfl ?_
            refine aw_if_eq 84 dX10_endDay_77 (by decide) (fun _ => ?_) (fun q => absurd q (by decide))
            refine aw_iload dX10_endDay_84 rfl ?_
            refine aw_if_eq 93 dX10_endDay_86 (by decide) (fun _ => ?_) (fun q => absurd q (by decide))
            refine aw_aload_n dX10_endDay_93 rfl ?_
            refine aw_iload_n dX10_endDay_94 rfl ?_
            refine aw_iconst (v := 4) dX10_endDay_95 (by decide) ?_
            refine ap_callVi kv_X10_102 ko_X10_booking (c_X10_booking_4 hn h2 (by omega)) dX10_endDay_96 e_63 (l_63 hn) rfl rfl rfl rfl (ble' rfl) (by decide) ?_
            refine ap_callVv kv_X10_134 ko_X10_setBooking (c_X10_setBooking (M := edB M t k) hn h2 (by omega) (show (4 : Int32) = nI 4 from rfl) (by decide) _) dX10_endDay_99 e_63 (l_63 hn) rfl rfl rfl rfl (ble' rfl) (by decide) ?_
            refine aw_iinc (lo' := [_, _, some (.int _), _, _]) dX10_endDay_102 rfl (by decide) rfl ?_
            refine aw_goto 9 dX10_endDay_105 (by decide) ?_
            refine aw_lo2 (lo' := [some (.ref 63), some (.int t), some (.int _), none, none]) ⟨rfl, rfl, rfl, trivial⟩ ?_
            refine aw_heq (h' := wld G (edB M t (k + 1))) (by rw [edB]; congr 2; exact (by rw [enR, if_neg (fun q => c25 q.1), if_neg (fun q => c63 q.2)])) ?_
            exact ih (k + 1) _ (by omega) (by omega) (by rw [h2]; exact inc1 k)
          · refine aw_iconst (v := 1) dX10_endDay_66 (by decide) ?_
            refine aw_goto 71 dX10_endDay_67 (by decide) ?_
            refine aw_istore (lo' := [_, _, _, _, some (.int _)]) dX10_endDay_71 (by decide) rfl ?_
            refine aw_aload_n dX10_endDay_73 rfl ?_
            refine aw_iload_n dX10_endDay_74 rfl ?_
            refine aw_iconst (v := 4) dX10_endDay_75 (by decide) ?_
            refine aw_iload_n dX10_endDay_76 rfl ?_
            refine aw_if_eq 84 dX10_endDay_77 (by decide) (fun _ => ?_) (fun q => absurd q (by decide))
            refine aw_iload dX10_endDay_84 rfl ?_
            refine aw_if_eq 93 dX10_endDay_86 (by decide) (fun q => absurd q (by decide)) (fun _ => ?_)
            refine aw_iconst (v := 2) dX10_endDay_89 (by decide) ?_
            refine aw_goto 99 dX10_endDay_90 (by decide) ?_
            refine ap_callVv kv_X10_134 ko_X10_setBooking (c_X10_setBooking (M := edB M t k) hn h2 (by omega) (show (4 : Int32) = nI 4 from rfl) (by decide) _) dX10_endDay_99 e_63 (l_63 hn) rfl rfl rfl rfl (ble' rfl) (by decide) ?_
            refine aw_iinc (lo' := [_, _, some (.int _), _, _]) dX10_endDay_102 rfl (by decide) rfl ?_
            refine aw_goto 9 dX10_endDay_105 (by decide) ?_
            refine aw_lo2 (lo' := [some (.ref 63), some (.int t), some (.int _), none, none]) ⟨rfl, rfl, rfl, trivial⟩ ?_
            refine aw_heq (h' := wld G (edB M t (k + 1))) (by rw [edB]; congr 2; exact (by rw [enR, if_neg (fun q => c25 q.1), if_pos ⟨c51, c63⟩])) ?_
            exact ih (k + 1) _ (by omega) (by omega) (by rw [h2]; exact inc1 k)
      · refine aw_aload_n dX10_endDay_28 rfl ?_
        refine aw_iload_n dX10_endDay_29 rfl ?_
        refine aw_iconst (v := 1) dX10_endDay_30 (by decide) ?_
        refine ap_callVi kv_X10_102 ko_X10_booking (c_X10_booking_1 hn h2 (by omega)) dX10_endDay_31 e_63 (l_63 hn) rfl rfl rfl rfl (ble' rfl) (by decide) ?_
        refine aw_iload_n dX10_endDay_34 rfl ?_
        refine aw_icmp_gt 42 dX10_endDay_35 (by decide) (fun c35 => ?_) (fun c35 => ?_)
        · have n35 := Int32.not_le.mpr c35
          refine aw_iconst (v := 0) dX10_endDay_42 (by decide) ?_
          refine aw_istore_n (lo' := [_, _, _, some (.int _), _]) dX10_endDay_43 (by decide) rfl ?_
          refine aw_aload_n dX10_endDay_44 rfl ?_
          refine aw_iload_n dX10_endDay_45 rfl ?_
          refine aw_iconst (v := 4) dX10_endDay_46 (by decide) ?_
          refine ap_callVi kv_X10_102 ko_X10_booking (c_X10_booking_4 hn h2 (by omega)) dX10_endDay_47 e_63 (l_63 hn) rfl rfl rfl rfl (ble' rfl) (by decide) ?_
          refine aw_iconst (v := 1) dX10_endDay_50 (by decide) ?_
          refine aw_icmp_ne 70 dX10_endDay_51 (by decide) (fun c51 => ?_) (fun c51 => ?_)
          · refine aw_iconst (v := 0) dX10_endDay_70 (by decide) ?_
            refine aw_istore (lo' := [_, _, _, _, some (.int _)]) dX10_endDay_71 (by decide) rfl ?_
            refine aw_aload_n dX10_endDay_73 rfl ?_
            refine aw_iload_n dX10_endDay_74 rfl ?_
            refine aw_iconst (v := 4) dX10_endDay_75 (by decide) ?_
            refine aw_iload_n dX10_endDay_76 rfl ?_
            refine aw_if_eq 84 dX10_endDay_77 (by decide) (fun _ => ?_) (fun q => absurd q (by decide))
            refine aw_iload dX10_endDay_84 rfl ?_
            refine aw_if_eq 93 dX10_endDay_86 (by decide) (fun _ => ?_) (fun q => absurd q (by decide))
            refine aw_aload_n dX10_endDay_93 rfl ?_
            refine aw_iload_n dX10_endDay_94 rfl ?_
            refine aw_iconst (v := 4) dX10_endDay_95 (by decide) ?_
            refine ap_callVi kv_X10_102 ko_X10_booking (c_X10_booking_4 hn h2 (by omega)) dX10_endDay_96 e_63 (l_63 hn) rfl rfl rfl rfl (ble' rfl) (by decide) ?_
            refine ap_callVv kv_X10_134 ko_X10_setBooking (c_X10_setBooking (M := edB M t k) hn h2 (by omega) (show (4 : Int32) = nI 4 from rfl) (by decide) _) dX10_endDay_99 e_63 (l_63 hn) rfl rfl rfl rfl (ble' rfl) (by decide) ?_
            refine aw_iinc (lo' := [_, _, some (.int _), _, _]) dX10_endDay_102 rfl (by decide) rfl ?_
            refine aw_goto 9 dX10_endDay_105 (by decide) ?_
            refine aw_lo2 (lo' := [some (.ref 63), some (.int t), some (.int _), none, none]) ⟨rfl, rfl, rfl, trivial⟩ ?_
            refine aw_heq (h' := wld G (edB M t (k + 1))) (by rw [edB]; congr 2; exact (by rw [enR, if_neg (fun q => n35 q.2), if_neg (fun q => c51 q.1)])) ?_
            exact ih (k + 1) _ (by omega) (by omega) (by rw [h2]; exact inc1 k)
          · refine aw_aload_n dX10_endDay_54 rfl ?_
            refine aw_iload_n dX10_endDay_55 rfl ?_
            refine aw_iconst (v := 2) dX10_endDay_56 (by decide) ?_
            refine ap_callVi kv_X10_102 ko_X10_booking (c_X10_booking_2 hn h2 (by omega)) dX10_endDay_57 e_63 (l_63 hn) rfl rfl rfl rfl (ble' rfl) (by decide) ?_
            refine aw_iload_n dX10_endDay_60 rfl ?_
            refine aw_iconst (v := 1) dX10_endDay_61 (by decide) ?_
            refine aw_iadd dX10_endDay_62 ?_
            refine aw_icmp_ne 70 dX10_endDay_63 (by decide) (fun c63 => ?_) (fun c63 => ?_)
            · refine aw_iconst (v := 0) dX10_endDay_70 (by decide) ?_
              refine aw_istore (lo' := [_, _, _, _, some (.int _)]) dX10_endDay_71 (by decide) rfl ?_
              refine aw_aload_n dX10_endDay_73 rfl ?_
              refine aw_iload_n dX10_endDay_74 rfl ?_
              refine aw_iconst (v := 4) dX10_endDay_75 (by decide) ?_
              refine aw_iload_n dX10_endDay_76 rfl ?_
              refine aw_if_eq 84 dX10_endDay_77 (by decide) (fun _ => ?_) (fun q => absurd q (by decide))
              refine aw_iload dX10_endDay_84 rfl ?_
              refine aw_if_eq 93 dX10_endDay_86 (by decide) (fun _ => ?_) (fun q => absurd q (by decide))
              refine aw_aload_n dX10_endDay_93 rfl ?_
              refine aw_iload_n dX10_endDay_94 rfl ?_
              refine aw_iconst (v := 4) dX10_endDay_95 (by decide) ?_
              refine ap_callVi kv_X10_102 ko_X10_booking (c_X10_booking_4 hn h2 (by omega)) dX10_endDay_96 e_63 (l_63 hn) rfl rfl rfl rfl (ble' rfl) (by decide) ?_
              refine ap_callVv kv_X10_134 ko_X10_setBooking (c_X10_setBooking (M := edB M t k) hn h2 (by omega) (show (4 : Int32) = nI 4 from rfl) (by decide) _) dX10_endDay_99 e_63 (l_63 hn) rfl rfl rfl rfl (ble' rfl) (by decide) ?_
              refine aw_iinc (lo' := [_, _, some (.int _), _, _]) dX10_endDay_102 rfl (by decide) rfl ?_
              refine aw_goto 9 dX10_endDay_105 (by decide) ?_
              refine aw_lo2 (lo' := [some (.ref 63), some (.int t), some (.int _), none, none]) ⟨rfl, rfl, rfl, trivial⟩ ?_
              refine aw_heq (h' := wld G (edB M t (k + 1))) (by rw [edB]; congr 2; exact (by rw [enR, if_neg (fun q => n35 q.2), if_neg (fun q => c63 q.2)])) ?_
              exact ih (k + 1) _ (by omega) (by omega) (by rw [h2]; exact inc1 k)
            · refine aw_iconst (v := 1) dX10_endDay_66 (by decide) ?_
              refine aw_goto 71 dX10_endDay_67 (by decide) ?_
              refine aw_istore (lo' := [_, _, _, _, some (.int _)]) dX10_endDay_71 (by decide) rfl ?_
              refine aw_aload_n dX10_endDay_73 rfl ?_
              refine aw_iload_n dX10_endDay_74 rfl ?_
              refine aw_iconst (v := 4) dX10_endDay_75 (by decide) ?_
              refine aw_iload_n dX10_endDay_76 rfl ?_
              refine aw_if_eq 84 dX10_endDay_77 (by decide) (fun _ => ?_) (fun q => absurd q (by decide))
              refine aw_iload dX10_endDay_84 rfl ?_
              refine aw_if_eq 93 dX10_endDay_86 (by decide) (fun q => absurd q (by decide)) (fun _ => ?_)
              refine aw_iconst (v := 2) dX10_endDay_89 (by decide) ?_
              refine aw_goto 99 dX10_endDay_90 (by decide) ?_
              refine ap_callVv kv_X10_134 ko_X10_setBooking (c_X10_setBooking (M := edB M t k) hn h2 (by omega) (show (4 : Int32) = nI 4 from rfl) (by decide) _) dX10_endDay_99 e_63 (l_63 hn) rfl rfl rfl rfl (ble' rfl) (by decide) ?_
              refine aw_iinc (lo' := [_, _, some (.int _), _, _]) dX10_endDay_102 rfl (by decide) rfl ?_
              refine aw_goto 9 dX10_endDay_105 (by decide) ?_
              refine aw_lo2 (lo' := [some (.ref 63), some (.int t), some (.int _), none, none]) ⟨rfl, rfl, rfl, trivial⟩ ?_
              refine aw_heq (h' := wld G (edB M t (k + 1))) (by rw [edB]; congr 2; exact (by rw [enR, if_neg (fun q => n35 q.2), if_pos ⟨c51, c63⟩])) ?_
              exact ih (k + 1) _ (by omega) (by omega) (by rw [h2]; exact inc1 k)
        · have n35 := Int32.not_lt.mp c35
          refine aw_iconst (v := 1) dX10_endDay_38 (by decide) ?_
          refine aw_goto 43 dX10_endDay_39 (by decide) ?_
          refine aw_istore_n (lo' := [_, _, _, some (.int _), _]) dX10_endDay_43 (by decide) rfl ?_
          refine aw_aload_n dX10_endDay_44 rfl ?_
          refine aw_iload_n dX10_endDay_45 rfl ?_
          refine aw_iconst (v := 4) dX10_endDay_46 (by decide) ?_
          refine ap_callVi kv_X10_102 ko_X10_booking (c_X10_booking_4 hn h2 (by omega)) dX10_endDay_47 e_63 (l_63 hn) rfl rfl rfl rfl (ble' rfl) (by decide) ?_
          refine aw_iconst (v := 1) dX10_endDay_50 (by decide) ?_
          refine aw_icmp_ne 70 dX10_endDay_51 (by decide) (fun c51 => ?_) (fun c51 => ?_)
          · refine aw_iconst (v := 0) dX10_endDay_70 (by decide) ?_
            refine aw_istore (lo' := [_, _, _, _, some (.int _)]) dX10_endDay_71 (by decide) rfl ?_
            refine aw_aload_n dX10_endDay_73 rfl ?_
            refine aw_iload_n dX10_endDay_74 rfl ?_
            refine aw_iconst (v := 4) dX10_endDay_75 (by decide) ?_
            refine aw_iload_n dX10_endDay_76 rfl ?_
            refine aw_if_eq 84 dX10_endDay_77 (by decide) (fun q => absurd q (by decide)) (fun _ => ?_)
            refine aw_iconst (v := 4) dX10_endDay_80 (by decide) ?_
            refine aw_goto 99 dX10_endDay_81 (by decide) ?_
            refine ap_callVv kv_X10_134 ko_X10_setBooking (c_X10_setBooking (M := edB M t k) hn h2 (by omega) (show (4 : Int32) = nI 4 from rfl) (by decide) _) dX10_endDay_99 e_63 (l_63 hn) rfl rfl rfl rfl (ble' rfl) (by decide) ?_
            refine aw_iinc (lo' := [_, _, some (.int _), _, _]) dX10_endDay_102 rfl (by decide) rfl ?_
            refine aw_goto 9 dX10_endDay_105 (by decide) ?_
            refine aw_lo2 (lo' := [some (.ref 63), some (.int t), some (.int _), none, none]) ⟨rfl, rfl, rfl, trivial⟩ ?_
            refine aw_heq (h' := wld G (edB M t (k + 1))) (by rw [edB]; congr 2; exact (by rw [enR, if_pos ⟨c25, n35⟩])) ?_
            exact ih (k + 1) _ (by omega) (by omega) (by rw [h2]; exact inc1 k)
          · refine aw_aload_n dX10_endDay_54 rfl ?_
            refine aw_iload_n dX10_endDay_55 rfl ?_
            refine aw_iconst (v := 2) dX10_endDay_56 (by decide) ?_
            refine ap_callVi kv_X10_102 ko_X10_booking (c_X10_booking_2 hn h2 (by omega)) dX10_endDay_57 e_63 (l_63 hn) rfl rfl rfl rfl (ble' rfl) (by decide) ?_
            refine aw_iload_n dX10_endDay_60 rfl ?_
            refine aw_iconst (v := 1) dX10_endDay_61 (by decide) ?_
            refine aw_iadd dX10_endDay_62 ?_
            refine aw_icmp_ne 70 dX10_endDay_63 (by decide) (fun c63 => ?_) (fun c63 => ?_)
            · refine aw_iconst (v := 0) dX10_endDay_70 (by decide) ?_
              refine aw_istore (lo' := [_, _, _, _, some (.int _)]) dX10_endDay_71 (by decide) rfl ?_
              refine aw_aload_n dX10_endDay_73 rfl ?_
              refine aw_iload_n dX10_endDay_74 rfl ?_
              refine aw_iconst (v := 4) dX10_endDay_75 (by decide) ?_
              refine aw_iload_n dX10_endDay_76 rfl ?_
              refine aw_if_eq 84 dX10_endDay_77 (by decide) (fun q => absurd q (by decide)) (fun _ => ?_)
              refine aw_iconst (v := 4) dX10_endDay_80 (by decide) ?_
              refine aw_goto 99 dX10_endDay_81 (by decide) ?_
              refine ap_callVv kv_X10_134 ko_X10_setBooking (c_X10_setBooking (M := edB M t k) hn h2 (by omega) (show (4 : Int32) = nI 4 from rfl) (by decide) _) dX10_endDay_99 e_63 (l_63 hn) rfl rfl rfl rfl (ble' rfl) (by decide) ?_
              refine aw_iinc (lo' := [_, _, some (.int _), _, _]) dX10_endDay_102 rfl (by decide) rfl ?_
              refine aw_goto 9 dX10_endDay_105 (by decide) ?_
              refine aw_lo2 (lo' := [some (.ref 63), some (.int t), some (.int _), none, none]) ⟨rfl, rfl, rfl, trivial⟩ ?_
              refine aw_heq (h' := wld G (edB M t (k + 1))) (by rw [edB]; congr 2; exact (by rw [enR, if_pos ⟨c25, n35⟩])) ?_
              exact ih (k + 1) _ (by omega) (by omega) (by rw [h2]; exact inc1 k)
            · refine aw_iconst (v := 1) dX10_endDay_66 (by decide) ?_
              refine aw_goto 71 dX10_endDay_67 (by decide) ?_
              refine aw_istore (lo' := [_, _, _, _, some (.int _)]) dX10_endDay_71 (by decide) rfl ?_
              refine aw_aload_n dX10_endDay_73 rfl ?_
              refine aw_iload_n dX10_endDay_74 rfl ?_
              refine aw_iconst (v := 4) dX10_endDay_75 (by decide) ?_
              refine aw_iload_n dX10_endDay_76 rfl ?_
              refine aw_if_eq 84 dX10_endDay_77 (by decide) (fun q => absurd q (by decide)) (fun _ => ?_)
              refine aw_iconst (v := 4) dX10_endDay_80 (by decide) ?_
              refine aw_goto 99 dX10_endDay_81 (by decide) ?_
              refine ap_callVv kv_X10_134 ko_X10_setBooking (c_X10_setBooking (M := edB M t k) hn h2 (by omega) (show (4 : Int32) = nI 4 from rfl) (by decide) _) dX10_endDay_99 e_63 (l_63 hn) rfl rfl rfl rfl (ble' rfl) (by decide) ?_
              refine aw_iinc (lo' := [_, _, some (.int _), _, _]) dX10_endDay_102 rfl (by decide) rfl ?_
              refine aw_goto 9 dX10_endDay_105 (by decide) ?_
              refine aw_lo2 (lo' := [some (.ref 63), some (.int t), some (.int _), none, none]) ⟨rfl, rfl, rfl, trivial⟩ ?_
              refine aw_heq (h' := wld G (edB M t (k + 1))) (by rw [edB]; congr 2; exact (by rw [enR, if_pos ⟨c25, n35⟩])) ?_
              exact ih (k + 1) _ (by omega) (by omega) (by rw [h2]; exact inc1 k)

set_option maxRecDepth 100000 in
set_option maxHeartbeats 4000000 in
theorem lp_X10_endDay2 {G : AG} {M : Nat → Nat → Int32} {n : Nat} (hn : 72 ≤ n) {nr : Nat} (hr : M 64 5 = nI nr) (hrl : nr ≤ 20) {t : Int32} {Po : APost} (hR : ∀ {h : Nat → AE}, h = wld G (w64 (edQ M t nr) 0 (edQ M t nr 64 0 + 1)) → Po (.inl none) h n) : ∀ (j k : Nat) (x2 : Int32), nr - k < j → k ≤ nr → x2 = nI k →  AW tX10_endDay (AQm tX10_endDay (Po)) C0 110 [some (.ref 63), some (.int t), some (.int x2), none, none] [] (wld G (edQ M t k)) n 0 0 := by
  intro j
  induction j with
  | zero => intro k x2 h0; omega
  | succ j ih =>
    intro k x2 h0 hk h2
    have hr2 : (edQ M t k) 64 5 = nI nr := (edQ_c (by decide) k).trans hr
    refine aw_iload_n dX10_endDay_110 rfl ?_
    refine aw_aload_n dX10_endDay_111 rfl ?_
    refine aw_get fl_X10_7 dX10_endDay_112 e_63 (l_63 hn) rfl ?_
    refine aw_iconst (v := 5) dX10_endDay_115 (by decide) ?_
    refine aw_ialdk dX10_endDay_116 e_64 (l_64 hn) (show (5 : Int32) = nI 5 from rfl) (by decide) rfl ?_
    refine aw_icmp_ge 171 dX10_endDay_117 (by decide) (fun c117 => ?_) (fun c117 => ?_)
    · have n117 := Int32.not_lt.mpr c117
      refine aw_aload_n dX10_endDay_171 rfl ?_
      refine aw_get fl_X10_7 dX10_endDay_172 e_63 (l_63 hn) rfl ?_
      refine aw_iconst (v := 0) dX10_endDay_175 (by decide) ?_
      refine aw_dup2 dX10_endDay_176 rfl rfl ?_
      refine aw_ialdk dX10_endDay_177 e_64 (l_64 hn) (show (0 : Int32) = nI 0 from rfl) (by decide) rfl ?_
      refine aw_iconst (v := 1) dX10_endDay_178 (by decide) ?_
      refine aw_iadd dX10_endDay_179 ?_
      refine aw_iastk dX10_endDay_180 e_64 (l_64 hn) (show (0 : Int32) = nI 0 from rfl) (by decide) rfl hw64 ?_
      refine aw_vret rfl dX10_endDay_181 (ble' rfl) (ble' rfl) ?_
      have hke : k = nr := Nat.le_antisymm hk (le_of_le hr2 h2 (by omega) (by omega) c117)
      exact hR (by rw [hke])
    · have n117 := Int32.not_le.mp c117
      have hlt : k < nr := lt_of_nle hr2 h2 (by omega) (by omega) c117
      refine aw_aload_n dX10_endDay_120 rfl ?_
      refine aw_iload_n dX10_endDay_121 rfl ?_
      refine aw_iconst (v := 3) dX10_endDay_122 (by decide) ?_
      refine ap_callVi kv_X10_156 ko_X10_requestField (c_X10_requestField_3 hn h2 (by omega)) dX10_endDay_123 e_63 (l_63 hn) rfl rfl rfl rfl (ble' rfl) (by decide) ?_
      refine aw_if_ne 143 dX10_endDay_126 (by decide) (fun c126 => ?_) (fun c126 => ?_)
      · refine aw_iconst (v := 0) dX10_endDay_143 (by decide) ?_
        refine aw_istore_n (lo' := [_, _, _, some (.int _), _]) dX10_endDay_144 (by decide) rfl ?_
        refine aw_aload_n dX10_endDay_145 rfl ?_
        refine aw_iload_n dX10_endDay_146 rfl ?_
        refine aw_iconst (v := 3) dX10_endDay_147 (by decide) ?_
        refine aw_iload_n dX10_endDay_148 rfl ?_
        refine aw_if_eq 156 dX10_endDay_149 (by decide) (fun _ => ?_) (fun q => absurd q (by decide))
        refine aw_aload_n dX10_endDay_156 rfl ?_
        refine aw_iload_n dX10_endDay_157 rfl ?_
        refine aw_iconst (v := 3) dX10_endDay_158 (by decide) ?_
        refine ap_callVi kv_X10_156 ko_X10_requestField (c_X10_requestField_3 hn h2 (by omega)) dX10_endDay_159 e_63 (l_63 hn) rfl rfl rfl rfl (ble' rfl) (by decide) ?_
        refine ap_callVv kv_X10_159 ko_X10_setRequest (c_X10_setRequest (M := edQ M t k) hn h2 (by omega) (show (3 : Int32) = nI 3 from rfl) (by decide) _) dX10_endDay_162 e_63 (l_63 hn) rfl rfl rfl rfl (ble' rfl) (by decide) ?_
        refine aw_iinc (lo' := [_, _, some (.int _), _, _]) dX10_endDay_165 rfl (by decide) rfl ?_
        refine aw_goto 110 dX10_endDay_168 (by decide) ?_
        refine aw_lo2 (lo' := [some (.ref 63), some (.int t), some (.int _), none, none]) ⟨rfl, rfl, rfl, trivial⟩ ?_
        refine aw_heq (h' := wld G (edQ M t (k + 1))) (by rw [edQ]; congr 2; exact (by rw [if_neg (fun q => c126 q.1)])) ?_
        exact ih (k + 1) _ (by omega) (by omega) (by rw [h2]; exact inc1 k)
      · refine aw_aload_n dX10_endDay_129 rfl ?_
        refine aw_iload_n dX10_endDay_130 rfl ?_
        refine aw_iconst (v := 1) dX10_endDay_131 (by decide) ?_
        refine ap_callVi kv_X10_156 ko_X10_requestField (c_X10_requestField_1 hn h2 (by omega)) dX10_endDay_132 e_63 (l_63 hn) rfl rfl rfl rfl (ble' rfl) (by decide) ?_
        refine aw_iload_n dX10_endDay_135 rfl ?_
        refine aw_icmp_gt 143 dX10_endDay_136 (by decide) (fun c136 => ?_) (fun c136 => ?_)
        · have n136 := Int32.not_le.mpr c136
          refine aw_iconst (v := 0) dX10_endDay_143 (by decide) ?_
          refine aw_istore_n (lo' := [_, _, _, some (.int _), _]) dX10_endDay_144 (by decide) rfl ?_
          refine aw_aload_n dX10_endDay_145 rfl ?_
          refine aw_iload_n dX10_endDay_146 rfl ?_
          refine aw_iconst (v := 3) dX10_endDay_147 (by decide) ?_
          refine aw_iload_n dX10_endDay_148 rfl ?_
          refine aw_if_eq 156 dX10_endDay_149 (by decide) (fun _ => ?_) (fun q => absurd q (by decide))
          refine aw_aload_n dX10_endDay_156 rfl ?_
          refine aw_iload_n dX10_endDay_157 rfl ?_
          refine aw_iconst (v := 3) dX10_endDay_158 (by decide) ?_
          refine ap_callVi kv_X10_156 ko_X10_requestField (c_X10_requestField_3 hn h2 (by omega)) dX10_endDay_159 e_63 (l_63 hn) rfl rfl rfl rfl (ble' rfl) (by decide) ?_
          refine ap_callVv kv_X10_159 ko_X10_setRequest (c_X10_setRequest (M := edQ M t k) hn h2 (by omega) (show (3 : Int32) = nI 3 from rfl) (by decide) _) dX10_endDay_162 e_63 (l_63 hn) rfl rfl rfl rfl (ble' rfl) (by decide) ?_
          refine aw_iinc (lo' := [_, _, some (.int _), _, _]) dX10_endDay_165 rfl (by decide) rfl ?_
          refine aw_goto 110 dX10_endDay_168 (by decide) ?_
          refine aw_lo2 (lo' := [some (.ref 63), some (.int t), some (.int _), none, none]) ⟨rfl, rfl, rfl, trivial⟩ ?_
          refine aw_heq (h' := wld G (edQ M t (k + 1))) (by rw [edQ]; congr 2; exact (by rw [if_neg (fun q => n136 q.2)])) ?_
          exact ih (k + 1) _ (by omega) (by omega) (by rw [h2]; exact inc1 k)
        · have n136 := Int32.not_lt.mp c136
          refine aw_iconst (v := 1) dX10_endDay_139 (by decide) ?_
          refine aw_goto 144 dX10_endDay_140 (by decide) ?_
          refine aw_istore_n (lo' := [_, _, _, some (.int _), _]) dX10_endDay_144 (by decide) rfl ?_
          refine aw_aload_n dX10_endDay_145 rfl ?_
          refine aw_iload_n dX10_endDay_146 rfl ?_
          refine aw_iconst (v := 3) dX10_endDay_147 (by decide) ?_
          refine aw_iload_n dX10_endDay_148 rfl ?_
          refine aw_if_eq 156 dX10_endDay_149 (by decide) (fun q => absurd q (by decide)) (fun _ => ?_)
          refine aw_iconst (v := 3) dX10_endDay_152 (by decide) ?_
          refine aw_goto 162 dX10_endDay_153 (by decide) ?_
          refine ap_callVv kv_X10_159 ko_X10_setRequest (c_X10_setRequest (M := edQ M t k) hn h2 (by omega) (show (3 : Int32) = nI 3 from rfl) (by decide) _) dX10_endDay_162 e_63 (l_63 hn) rfl rfl rfl rfl (ble' rfl) (by decide) ?_
          refine aw_iinc (lo' := [_, _, some (.int _), _, _]) dX10_endDay_165 rfl (by decide) rfl ?_
          refine aw_goto 110 dX10_endDay_168 (by decide) ?_
          refine aw_lo2 (lo' := [some (.ref 63), some (.int t), some (.int _), none, none]) ⟨rfl, rfl, rfl, trivial⟩ ?_
          refine aw_heq (h' := wld G (edQ M t (k + 1))) (by rw [edQ]; congr 2; exact (by rw [if_pos ⟨c126, n136⟩])) ?_
          exact ih (k + 1) _ (by omega) (by omega) (by rw [h2]; exact inc1 k)

def edM (M : Nat → Nat → Int32) (nb nr : Nat) : Nat → Nat → Int32 := w64 (edQ (edB M (M 64 0) nb) (M 64 0) nr) 0 (edQ (edB M (M 64 0) nb) (M 64 0) nr 64 0 + 1)
set_option maxRecDepth 100000 in
set_option maxHeartbeats 4000000 in
theorem c_X10_endDay {G : AG} {M : Nat → Nat → Int32} {n : Nat} (hn : 72 ≤ n) {nb nr : Nat} (hb : M 64 4 = nI nb) (hbl : nb ≤ 60) (hr : M 64 5 = nI nr) (hrl : nr ≤ 20) : AMet tX10_endDay yX10_endDay [Cond.code yX10_endDay cX10_endDay 5 none] [.ref 63] (wld G M) n (PD (.inl none) (wld G (edM M nb nr)) n) := by
  refine am_of (lo := [_, _, _, _, _]) (by decide) rfl (fun q => by cases q) rfl rfl rfl ?_
  refine aw_aload_n dX10_endDay_0 rfl ?_
  refine aw_get fl_X10_7 dX10_endDay_1 e_63 (l_63 hn) rfl ?_
  refine aw_iconst (v := 0) dX10_endDay_4 (by decide) ?_
  refine aw_ialdk dX10_endDay_5 e_64 (l_64 hn) (show (0 : Int32) = nI 0 from rfl) (by decide) rfl ?_
  refine aw_istore_n (lo' := [_, some (.int _), _, _, _]) dX10_endDay_6 (by decide) rfl ?_
  refine aw_iconst (v := 0) dX10_endDay_7 (by decide) ?_
  refine aw_istore_n (lo' := [_, _, some (.int _), _, _]) dX10_endDay_8 (by decide) rfl ?_
  refine aw_lo2 (lo' := [some (.ref 63), some (.int _), some (.int _), none, none]) ⟨rfl, rfl, rfl, trivial⟩ ?_
  refine lp_X10_endDay1 hn hb hbl ?_ (nb + 1) 0 _ (by omega) (by omega) rfl
  refine aw_iconst (v := 0) dX10_endDay_108 (by decide) ?_
  refine aw_istore_n (lo' := [_, _, some (.int _), _, _]) dX10_endDay_109 (by decide) rfl ?_
  exact lp_X10_endDay2 (M := edB M (M 64 0) nb) hn ((edB_c (by decide) nb).trans hr) hrl (fun e => pd_v e) (nr + 1) 0 _ (by omega) (by omega) rfl
