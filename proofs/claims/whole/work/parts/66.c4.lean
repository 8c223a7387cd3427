section C4
variable {G : Gl} {d : Nat} {T : Sh} {I : Mi} {N : Nat → Int} {Q : Option AV → Sh → Mi → Prop}
theorem k_number {q : Int} {u : Nat} {L : Nat → Int} (hu : ShP T u) (hL : ∀ k, k < 9 → I (u + 1) k = L k) (hq : Q (some (aI (if 0 ≤ q ∧ q < 9 then L q.toNat else -1))) T I) : EvE G mX6_number d [aR u, aI q] T I Q := by
  refine EvE.mk (lv0 := [some (aR u), some (aI q)]) (Nat.le_of_ble_eq_true rfl) (by decide +kernel) rfl ?_
  refine r_iload_n (pc := 0) (i := 1) dX6_number_0 rfl rfl ?_
  refine r_if_lt (pc := 1) (tgt := 19) dX6_number_1 rfl (fun c1 => ?_) (fun c1 => ?_)
  · refine r_iconst (pc := 19) dX6_number_19 (in32_of rfl) ?_
    exact r_iret (pc := 20) dX6_number_20 trivial (by rw [if_neg (by omega)] at hq; exact hq)
  · refine r_iload_n (pc := 4) (i := 1) dX6_number_4 rfl rfl ?_
    refine r_bipush (pc := 5) dX6_number_5 rfl (in32_of rfl) ?_
    refine r_icmp_ge (pc := 7) (tgt := 19) dX6_number_7 rfl (fun c7 => ?_) (fun c7 => ?_)
    · refine r_iconst (pc := 19) dX6_number_19 (in32_of rfl) ?_
      exact r_iret (pc := 20) dX6_number_20 trivial (by rw [if_neg (by omega)] at hq; exact hq)
    · refine r_aload_n (pc := 10) (i := 0) dX6_number_10 rfl rfl ?_
      refine r_getfr (pc := 11) (b := u + 1) cks dX6_number_11 fl_X6_18 rfl (kP0 hu) (ltP0 hu) (rP0_0 hu) ?_
      refine r_iload_n (pc := 14) (i := 1) dX6_number_14 rfl rfl ?_
      refine r_ild (pc := 15) (q.toNat) dX6_number_15 (kP1 hu) (ltP (k := 1) hu (by omega)) (by omega) (by rw [lP1 hu]; omega) ?_
      refine r_top (b := L q.toNat) (hL _ (by omega)) ?_
      refine r_goto (pc := 16) (tgt := 20) dX6_number_16 rfl ?_
      exact r_iret (pc := 20) dX6_number_20 trivial (by rw [if_pos (by omega)] at hq; exact hq)
theorem k_num {u : Nat} {L : Nat → Int} (hu : ShP T u) (i : Nat) (hi : i < 9) (hL : ∀ k, k < 9 → I (u + 1) k = L k) (hq : Q (some (aI (L i))) T I) : EvE G mX6_number d [aR u, aI (i : Int)] T I Q := k_number hu hL (by rw [if_pos (by omega), Int.toNat_natCast]; exact hq)
theorem k_finClear {s p o t c : Nat} (hS : ShS T s p o t c) (hq : Q none T (sr I (s + 11) (un (un (un (un (I (s + 11)) 0 0) 4 0) 5 (-1)) 6 (-1)))) : EvE G mX1_clear d [aR (s + 11)] T I Q := by
  have hne := neS hS
  refine EvE.mk (lv0 := [some (aR (s + 11))]) (Nat.le_of_ble_eq_true rfl) (by decide +kernel) rfl ?_
  refine r_aload_n (pc := 0) (i := 0) dX1_clear_0 rfl rfl ?_
  refine r_iconst (pc := 1) dX1_clear_1 (in32_of rfl) ?_
  refine r_putfi (pc := 2) cks dX1_clear_2 fl_X1_9 (pf_1_0 _ _) rfl (kS11 hS) (ltS (k := 11) hS (by omega)) ?_
  refine r_mem (I2 := sr I (s + 11) (un (I (s + 11)) 0 0)) ((up2_row _ _ _ _).trans ((congrArg (fun fz_ => sr I (s + 11) (un fz_ 0 0)) (show I (s + 11) = I (s + 11) from rfl)).trans (rfl))) ?_
  refine r_aload_n (pc := 5) (i := 0) dX1_clear_5 rfl rfl ?_
  refine r_iconst (pc := 6) dX1_clear_6 (in32_of rfl) ?_
  refine r_putfi (pc := 7) cks dX1_clear_7 fl_X1_25 (pf_1_4 _ _) rfl (kS11 hS) (ltS (k := 11) hS (by omega)) ?_
  refine r_mem (I2 := sr I (s + 11) (un (un (I (s + 11)) 0 0) 4 0)) ((up2_row _ _ _ _).trans ((congrArg (fun fz_ => sr (sr I (s + 11) (un (I (s + 11)) 0 0)) (s + 11) (un fz_ 4 0)) (show (sr I (s + 11) (un (I (s + 11)) 0 0)) (s + 11) = un (I (s + 11)) 0 0 from sr_row _ _ _)).trans (sr_sr _ _ _ _))) ?_
  refine r_aload_n (pc := 10) (i := 0) dX1_clear_10 rfl rfl ?_
  refine r_iconst (pc := 11) dX1_clear_11 (in32_of rfl) ?_
  refine r_putfi (pc := 12) cks dX1_clear_12 fl_X1_28 (pf_1_5 _ _) rfl (kS11 hS) (ltS (k := 11) hS (by omega)) ?_
  refine r_mem (I2 := sr I (s + 11) (un (un (un (I (s + 11)) 0 0) 4 0) 5 (-1))) ((up2_row _ _ _ _).trans ((congrArg (fun fz_ => sr (sr I (s + 11) (un (un (I (s + 11)) 0 0) 4 0)) (s + 11) (un fz_ 5 (-1))) (show (sr I (s + 11) (un (un (I (s + 11)) 0 0) 4 0)) (s + 11) = un (un (I (s + 11)) 0 0) 4 0 from sr_row _ _ _)).trans (sr_sr _ _ _ _))) ?_
  refine r_aload_n (pc := 15) (i := 0) dX1_clear_15 rfl rfl ?_
  refine r_iconst (pc := 16) dX1_clear_16 (in32_of rfl) ?_
  refine r_putfi (pc := 17) cks dX1_clear_17 fl_X1_31 (pf_1_6 _ _) rfl (kS11 hS) (ltS (k := 11) hS (by omega)) ?_
  refine r_mem (I2 := sr I (s + 11) (un (un (un (un (I (s + 11)) 0 0) 4 0) 5 (-1)) 6 (-1))) ((up2_row _ _ _ _).trans ((congrArg (fun fz_ => sr (sr I (s + 11) (un (un (un (I (s + 11)) 0 0) 4 0) 5 (-1))) (s + 11) (un fz_ 6 (-1))) (show (sr I (s + 11) (un (un (un (I (s + 11)) 0 0) 4 0) 5 (-1))) (s + 11) = un (un (un (I (s + 11)) 0 0) 4 0) 5 (-1) from sr_row _ _ _)).trans (sr_sr _ _ _ _))) ?_
  exact r_vret (pc := 20) dX1_clear_20 trivial hq
/-- a state's fields as a clearing lays them -/
def clF (F : Nat → Int) : Nat → Int := un (un (un (un (un (un (un (un (un F 0 0) 1 0) 2 0) 3 0) 4 0) 5 (-1)) 6 0) 7 0) 8 0
theorem k_clear {s p o t c : Nat} (hS : ShS T s p o t c) (hd : 1 ≤ d) (hq : Q none T (sr (sr (sr (sr I s (clF (I s))) (s + 3) (un (I (s + 3)) 0 0)) (s + 7) (un (I (s + 7)) 0 0)) (s + 11) (un (un (un (un (I (s + 11)) 0 0) 4 0) 5 (-1)) 6 (-1)))) : EvE G mX9_clear d [aR s] T I Q := by
  have hne := neS hS
  refine EvE.mk (lv0 := [some (aR s)]) (Nat.le_of_ble_eq_true rfl) (by decide +kernel) rfl ?_
  refine r_aload_n (pc := 0) (i := 0) dX9_clear_0 rfl rfl ?_
  refine r_iconst (pc := 1) dX9_clear_1 (in32_of rfl) ?_
  refine r_putfi (pc := 2) cks dX9_clear_2 fl_X9_9 (pf_9_0 _ _) rfl (kS0 hS) (ltS0 hS) ?_
  refine r_mem (I2 := sr I s (un (I s) 0 0)) ((up2_row _ _ _ _).trans ((congrArg (fun fz_ => sr I s (un fz_ 0 0)) (show I s = I s from rfl)).trans (rfl))) ?_
  refine r_aload_n (pc := 5) (i := 0) dX9_clear_5 rfl rfl ?_
  refine r_iconst (pc := 6) dX9_clear_6 (in32_of rfl) ?_
  refine r_putfi (pc := 7) cks dX9_clear_7 fl_X9_15 (pf_9_1 _ _) rfl (kS0 hS) (ltS0 hS) ?_
  refine r_mem (I2 := sr I s (un (un (I s) 0 0) 1 0)) ((up2_row _ _ _ _).trans ((congrArg (fun fz_ => sr (sr I s (un (I s) 0 0)) s (un fz_ 1 0)) (show (sr I s (un (I s) 0 0)) s = un (I s) 0 0 from sr_row _ _ _)).trans (sr_sr _ _ _ _))) ?_
  refine r_aload_n (pc := 10) (i := 0) dX9_clear_10 rfl rfl ?_
  refine r_iconst (pc := 11) dX9_clear_11 (in32_of rfl) ?_
  refine r_putfi (pc := 12) cks dX9_clear_12 fl_X9_18 (pf_9_2 _ _) rfl (kS0 hS) (ltS0 hS) ?_
  refine r_mem (I2 := sr I s (un (un (un (I s) 0 0) 1 0) 2 0)) ((up2_row _ _ _ _).trans ((congrArg (fun fz_ => sr (sr I s (un (un (I s) 0 0) 1 0)) s (un fz_ 2 0)) (show (sr I s (un (un (I s) 0 0) 1 0)) s = un (un (I s) 0 0) 1 0 from sr_row _ _ _)).trans (sr_sr _ _ _ _))) ?_
  refine r_aload_n (pc := 15) (i := 0) dX9_clear_15 rfl rfl ?_
  refine r_iconst (pc := 16) dX9_clear_16 (in32_of rfl) ?_
  refine r_putfi (pc := 17) cks dX9_clear_17 fl_X9_21 (pf_9_3 _ _) rfl (kS0 hS) (ltS0 hS) ?_
  refine r_mem (I2 := sr I s (un (un (un (un (I s) 0 0) 1 0) 2 0) 3 0)) ((up2_row _ _ _ _).trans ((congrArg (fun fz_ => sr (sr I s (un (un (un (I s) 0 0) 1 0) 2 0)) s (un fz_ 3 0)) (show (sr I s (un (un (un (I s) 0 0) 1 0) 2 0)) s = un (un (un (I s) 0 0) 1 0) 2 0 from sr_row _ _ _)).trans (sr_sr _ _ _ _))) ?_
  refine r_aload_n (pc := 20) (i := 0) dX9_clear_20 rfl rfl ?_
  refine r_iconst (pc := 21) dX9_clear_21 (in32_of rfl) ?_
  refine r_putfi (pc := 22) cks dX9_clear_22 fl_X9_24 (pf_9_4 _ _) rfl (kS0 hS) (ltS0 hS) ?_
  refine r_mem (I2 := sr I s (un (un (un (un (un (I s) 0 0) 1 0) 2 0) 3 0) 4 0)) ((up2_row _ _ _ _).trans ((congrArg (fun fz_ => sr (sr I s (un (un (un (un (I s) 0 0) 1 0) 2 0) 3 0)) s (un fz_ 4 0)) (show (sr I s (un (un (un (un (I s) 0 0) 1 0) 2 0) 3 0)) s = un (un (un (un (I s) 0 0) 1 0) 2 0) 3 0 from sr_row _ _ _)).trans (sr_sr _ _ _ _))) ?_
  refine r_aload_n (pc := 25) (i := 0) dX9_clear_25 rfl rfl ?_
  refine r_iconst (pc := 26) dX9_clear_26 (in32_of rfl) ?_
  refine r_putfi (pc := 27) cks dX9_clear_27 fl_X9_27 (pf_9_5 _ _) rfl (kS0 hS) (ltS0 hS) ?_
  refine r_mem (I2 := sr I s (un (un (un (un (un (un (I s) 0 0) 1 0) 2 0) 3 0) 4 0) 5 (-1))) ((up2_row _ _ _ _).trans ((congrArg (fun fz_ => sr (sr I s (un (un (un (un (un (I s) 0 0) 1 0) 2 0) 3 0) 4 0)) s (un fz_ 5 (-1))) (show (sr I s (un (un (un (un (un (I s) 0 0) 1 0) 2 0) 3 0) 4 0)) s = un (un (un (un (un (I s) 0 0) 1 0) 2 0) 3 0) 4 0 from sr_row _ _ _)).trans (sr_sr _ _ _ _))) ?_
  refine r_aload_n (pc := 30) (i := 0) dX9_clear_30 rfl rfl ?_
  refine r_iconst (pc := 31) dX9_clear_31 (in32_of rfl) ?_
  refine r_putfi (pc := 32) cks dX9_clear_32 fl_X9_30 (pf_9_6 _ _) rfl (kS0 hS) (ltS0 hS) ?_
  refine r_mem (I2 := sr I s (un (un (un (un (un (un (un (I s) 0 0) 1 0) 2 0) 3 0) 4 0) 5 (-1)) 6 0)) ((up2_row _ _ _ _).trans ((congrArg (fun fz_ => sr (sr I s (un (un (un (un (un (un (I s) 0 0) 1 0) 2 0) 3 0) 4 0) 5 (-1))) s (un fz_ 6 0)) (show (sr I s (un (un (un (un (un (un (I s) 0 0) 1 0) 2 0) 3 0) 4 0) 5 (-1))) s = un (un (un (un (un (un (I s) 0 0) 1 0) 2 0) 3 0) 4 0) 5 (-1) from sr_row _ _ _)).trans (sr_sr _ _ _ _))) ?_
  refine r_aload_n (pc := 35) (i := 0) dX9_clear_35 rfl rfl ?_
  refine r_iconst (pc := 36) dX9_clear_36 (in32_of rfl) ?_
  refine r_putfi (pc := 37) cks dX9_clear_37 fl_X9_33 (pf_9_7 _ _) rfl (kS0 hS) (ltS0 hS) ?_
  refine r_mem (I2 := sr I s (un (un (un (un (un (un (un (un (I s) 0 0) 1 0) 2 0) 3 0) 4 0) 5 (-1)) 6 0) 7 0)) ((up2_row _ _ _ _).trans ((congrArg (fun fz_ => sr (sr I s (un (un (un (un (un (un (un (I s) 0 0) 1 0) 2 0) 3 0) 4 0) 5 (-1)) 6 0)) s (un fz_ 7 0)) (show (sr I s (un (un (un (un (un (un (un (I s) 0 0) 1 0) 2 0) 3 0) 4 0) 5 (-1)) 6 0)) s = un (un (un (un (un (un (un (I s) 0 0) 1 0) 2 0) 3 0) 4 0) 5 (-1)) 6 0 from sr_row _ _ _)).trans (sr_sr _ _ _ _))) ?_
  refine r_aload_n (pc := 40) (i := 0) dX9_clear_40 rfl rfl ?_
  refine r_iconst (pc := 41) dX9_clear_41 (in32_of rfl) ?_
  refine r_putfi (pc := 42) cks dX9_clear_42 fl_X9_36 (pf_9_8 _ _) rfl (kS0 hS) (ltS0 hS) ?_
  refine r_mem (I2 := sr I s (un (un (un (un (un (un (un (un (un (I s) 0 0) 1 0) 2 0) 3 0) 4 0) 5 (-1)) 6 0) 7 0) 8 0)) ((up2_row _ _ _ _).trans ((congrArg (fun fz_ => sr (sr I s (un (un (un (un (un (un (un (un (I s) 0 0) 1 0) 2 0) 3 0) 4 0) 5 (-1)) 6 0) 7 0)) s (un fz_ 8 0)) (show (sr I s (un (un (un (un (un (un (un (un (I s) 0 0) 1 0) 2 0) 3 0) 4 0) 5 (-1)) 6 0) 7 0)) s = un (un (un (un (un (un (un (un (I s) 0 0) 1 0) 2 0) 3 0) 4 0) 5 (-1)) 6 0) 7 0 from sr_row _ _ _)).trans (sr_sr _ _ _ _))) ?_
  refine r_aload_n (pc := 45) (i := 0) dX9_clear_45 rfl rfl ?_
  refine r_getfr (pc := 46) (b := s + 3) cks dX9_clear_46 fl_X9_49 rfl (kS0 hS) (ltS0 hS) (rS0_11 hS) ?_
  refine r_iconst (pc := 49) dX9_clear_49 (in32_of rfl) ?_
  refine r_putfi (pc := 50) cks dX9_clear_50 fl_X9_67 (pf_3_0 _ _) rfl (kS3 hS) (ltS (k := 3) hS (by omega)) ?_
  refine r_mem (I2 := sr (sr I s (un (un (un (un (un (un (un (un (un (I s) 0 0) 1 0) 2 0) 3 0) 4 0) 5 (-1)) 6 0) 7 0) 8 0)) (s + 3) (un (I (s + 3)) 0 0)) ((up2_row _ _ _ _).trans ((congrArg (fun fz_ => sr (sr I s (un (un (un (un (un (un (un (un (un (I s) 0 0) 1 0) 2 0) 3 0) 4 0) 5 (-1)) 6 0) 7 0) 8 0)) (s + 3) (un fz_ 0 0)) (show (sr I s (un (un (un (un (un (un (un (un (un (I s) 0 0) 1 0) 2 0) 3 0) 4 0) 5 (-1)) 6 0) 7 0) 8 0)) (s + 3) = I (s + 3) from (sr_ne (by omega)).trans (rfl))).trans (rfl))) ?_
  refine r_aload_n (pc := 53) (i := 0) dX9_clear_53 rfl rfl ?_
  refine r_getfr (pc := 54) (b := s + 7) cks dX9_clear_54 fl_X9_56 rfl (kS0 hS) (ltS0 hS) (rS0_12 hS) ?_
  refine r_iconst (pc := 57) dX9_clear_57 (in32_of rfl) ?_
  refine r_putfi (pc := 58) cks dX9_clear_58 fl_X9_70 (pf_4_0 _ _) rfl (kS7 hS) (ltS (k := 7) hS (by omega)) ?_
  refine r_mem (I2 := sr (sr (sr I s (un (un (un (un (un (un (un (un (un (I s) 0 0) 1 0) 2 0) 3 0) 4 0) 5 (-1)) 6 0) 7 0) 8 0)) (s + 3) (un (I (s + 3)) 0 0)) (s + 7) (un (I (s + 7)) 0 0)) ((up2_row _ _ _ _).trans ((congrArg (fun fz_ => sr (sr (sr I s (un (un (un (un (un (un (un (un (un (I s) 0 0) 1 0) 2 0) 3 0) 4 0) 5 (-1)) 6 0) 7 0) 8 0)) (s + 3) (un (I (s + 3)) 0 0)) (s + 7) (un fz_ 0 0)) (show (sr (sr I s (un (un (un (un (un (un (un (un (un (I s) 0 0) 1 0) 2 0) 3 0) 4 0) 5 (-1)) 6 0) 7 0) 8 0)) (s + 3) (un (I (s + 3)) 0 0)) (s + 7) = I (s + 7) from (sr_ne (by omega)).trans ((sr_ne (by omega)).trans (rfl)))).trans (rfl))) ?_
  refine r_aload_n (pc := 61) (i := 0) dX9_clear_61 rfl rfl ?_
  refine r_getfr (pc := 62) (b := s + 11) cks dX9_clear_62 fl_X9_63 rfl (kS0 hS) (ltS0 hS) (rS0_13 hS) ?_
  refine r_callV0 (pc := 65) (d - 1) [] dX9_clear_65 (CV.mk2 mk_X1_clear lk_X9_73) (RC.of (ltS (k := 11) hS (by omega)) (kS11 hS) (by decide) rfl) rfl rfl (by omega) (Nat.le_of_ble_eq_true rfl) (Nat.le_of_ble_eq_true rfl) (k_finClear hS ?_)
  refine ⟨rfl, fun _ => ?_⟩
  refine r_mem (I2 := sr (sr (sr (sr I s (un (un (un (un (un (un (un (un (un (I s) 0 0) 1 0) 2 0) 3 0) 4 0) 5 (-1)) 6 0) 7 0) 8 0)) (s + 3) (un (I (s + 3)) 0 0)) (s + 7) (un (I (s + 7)) 0 0)) (s + 11) (un (un (un (un (I (s + 11)) 0 0) 4 0) 5 (-1)) 6 (-1))) ((congrArg (fun v0_ => (sr (sr (sr (sr I s (un (un (un (un (un (un (un (un (un (I s) 0 0) 1 0) 2 0) 3 0) 4 0) 5 (-1)) 6 0) 7 0) 8 0)) (s + 3) (un (I (s + 3)) 0 0)) (s + 7) (un (I (s + 7)) 0 0)) (s + 11) (un (un (un (un v0_ 0 0) 4 0) 5 (-1)) 6 (-1)))) (show (sr (sr (sr I s (un (un (un (un (un (un (un (un (un (I s) 0 0) 1 0) 2 0) 3 0) 4 0) 5 (-1)) 6 0) 7 0) 8 0)) (s + 3) (un (I (s + 3)) 0 0)) (s + 7) (un (I (s + 7)) 0 0)) (s + 11) = I (s + 11) from (sr_ne (by omega)).trans ((sr_ne (by omega)).trans ((sr_ne (by omega)).trans (rfl))))).trans (rfl)) ?_
  exact r_vret (pc := 68) dX9_clear_68 trivial hq
end C4
