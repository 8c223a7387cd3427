section M44
variable {G : Gl} {d : Nat} {T : Sh} {I : Mi} {N : Nat → Int} {Q : Option AV → Sh → Mi → Prop}
theorem c_noise {m : Int} {L : Nat → Int} {P W A H : Nat → Int} (hT : ShM T) (hd : 8 ≤ d) (hR : Rng N) (hI : I 280 = L) (hL : plOk L) (h17 : H 17 = -1) (hq0 : ¬ (1 ≤ m ∧ m ≤ 20) → Q (some (aI (-1))) T (sr (sr (sr (sr (sr I 286 P) 285 W) 284 A) 274 H) 283 N)) (hq1 : (1 ≤ m ∧ m ≤ 20) → ∀ A2 K2 N2 : Nat → Int, agN N N2 → kpF H K2 → Q (some (aI (nzF L m.toNat 51 0 N))) T (sr (sr (sr (sr (sr I 286 P) 285 W) 284 A2) 274 K2) 283 N2)) : EvE G mX12_noise d [aR 274, aI m] T (sr (sr (sr (sr (sr I 286 P) 285 W) 284 A) 274 H) 283 N) Q := by
  refine EvE.mk (lv0 := [some (aR 274), some (aI m), none, none, none]) (Nat.le_of_ble_eq_true rfl) (by decide +kernel) rfl ?_
  refine r_mem (I2 := sr (sr (sr (sr (sr (sr I 280 L) 286 P) 285 W) 284 A) 274 H) 283 N) (by rw [← hI, sr_id]) ?_
  refine r_iload_n (pc := 0) (i := 1) dX12_noise_0 rfl rfl ?_
  refine r_i2l (pc := 1) dX12_noise_1 ?_
  refine r_lconst (pc := 2) (z := 1) dX12_noise_2 rfl (in64_of rfl) ?_
  refine r_ldc2 (pc := 3) (n := 20) dX12_noise_3 cn_X12_314 (in64_of rfl) ?_
  refine r_callS1 (pc := 6) (d - 1) [aL m, aL 1, aL 20] dX12_noise_6 (CS.mk2 mk_X12_isIn1 lk_X12_76) rfl rfl (by omega) (Nat.le_of_ble_eq_true rfl) (Nat.le_of_ble_eq_true rfl) (c_isIn1 ?_)
  refine ⟨_, rfl, fun _ => ?_⟩
  refine r_if_ne (pc := 9) (tgt := 14) dX12_noise_9 rfl (fun c9 => ?_) (fun c9 => ?_)
  · have c9 := bi_1 c9
    obtain ⟨m, rfl⟩ : ∃ e : Nat, m = (e : Int) := ⟨m.toNat, by omega⟩
    have hRA := Rng_ag hR (ag_cp N A)
    refine r_aload_n (pc := 14) (i := 0) dX12_noise_14 rfl rfl ?_
    refine r_callV0 (pc := 15) (d - 1) [] dX12_noise_15 (CV.mk2 mk_X12_keepsAside lk_X12_305) (RC.of (ltM hT (by omega)) (kM274 hT) (by decide) rfl) rfl rfl (by omega) (Nat.le_of_ble_eq_true rfl) (Nat.le_of_ble_eq_true rfl) (c_keepsAside hT (by omega) hR ?_)
    refine ⟨rfl, fun _ => ?_⟩
    refine r_aload_n (pc := 18) (i := 0) dX12_noise_18 rfl rfl ?_
    refine r_getfr (pc := 19) (b := 280) cks dX12_noise_19 fl_X12_27 rfl (kM274 hT) (ltM hT (by omega)) (rM6 hT) ?_
    refine r_iconst (pc := 22) dX12_noise_22 (in32_of rfl) ?_
    refine r_ild (pc := 23) (2) dX12_noise_23 (kM280 hT) (ltM hT (by omega)) (by omega) (by rw [lM280 hT]; omega) ?_
    refine r_top (b := L 2) ((congrFun (sr_ne (by decide)) _).trans ((congrFun (sr_ne (by decide)) _).trans ((congrFun (sr_ne (by decide)) _).trans ((congrFun (sr_ne (by decide)) _).trans ((congrFun (sr_ne (by decide)) _).trans (sr_at _ _ _ _)))))) ?_
    refine r_istore_n (pc := 24) (i := 2) (lv' := [_, _, _, _, _]) dX12_noise_24 rfl (by decide) rfl ?_
    refine r_bipush (pc := 25) dX12_noise_25 rfl (in32_of rfl) ?_
    refine r_istore_n (pc := 27) (i := 3) (lv' := [_, _, _, _, _]) dX12_noise_27 rfl (by decide) rfl ?_
    refine r_sipush (pc := 28) dX12_noise_28 rfl (in32_of rfl) ?_
    refine r_istore (pc := 31) (i := 4) (lv' := [_, _, _, _, _]) dX12_noise_31 (by decide) rfl ?_
    refine loop4 (fun (j : Nat) (K : Nat → Int) (M : Nat → Int) (X : Nat → Int) => j ≤ 51 ∧ nzF L m 51 0 N = nzF L m (51 - j) j M ∧ kpF H K ∧ ∀ k, k ≠ 2 → X k = L k) (fun (j : Nat) (K : Nat → Int) (M : Nat → Int) (X : Nat → Int) => 51 - j) (fun (j : Nat) (K : Nat → Int) (M : Nat → Int) (X : Nat → Int) => [some (aR 274), some (aI ((m : Nat) : Int)), some (aI (L 2)), some (aI (-2)), some (aI (-10 * ((j : Nat) : Int) + 500))]) (fun _ _ _ _ => T) (fun (j : Nat) (K : Nat → Int) (M : Nat → Int) (X : Nat → Int) => sr (sr (sr (sr (sr (sr I 280 X) 286 P) 285 W) 284 (cpyR N 0 A 0 (tN N + 3902))) 274 K) 283 M) ?_ 0 H N L ⟨Nat.zero_le _, rfl, kpF_id, fun _ _ => rfl⟩
    intro j K M X hP ih
    have hP : j ≤ 51 ∧ nzF L m 51 0 N = nzF L m (51 - j) j M ∧ kpF H K ∧ ∀ k, k ≠ 2 → X k = L k := hP
    have hK7 : K 17 = -1 := (hP.2.2.1 17 (by decide) (by decide)).trans h17
    refine (?_ : Ev G mX12_noise d 33 [some (aR 274), some (aI ((m : Nat) : Int)), some (aI (L 2)), some (aI (-2)), some (aI (-10 * ((j : Nat) : Int) + 500))] [] T (sr (sr (sr (sr (sr (sr I 280 X) 286 P) 285 W) 284 (cpyR N 0 A 0 (tN N + 3902))) 274 K) 283 M) Q)
    refine r_iload (pc := 33) (i := 4) dX12_noise_33 rfl ?_
    refine r_if_lt (pc := 35) (tgt := 67) dX12_noise_35 rfl (fun c35 => ?_) (fun c35 => ?_)
    · refine r_aload_n (pc := 67) (i := 0) dX12_noise_67 rfl rfl ?_
      refine r_getfr (pc := 68) (b := 280) cks dX12_noise_68 fl_X12_27 rfl (kM274 hT) (ltM hT (by omega)) (rM6 hT) ?_
      refine r_iconst (pc := 71) dX12_noise_71 (in32_of rfl) ?_
      refine r_iload_n (pc := 72) (i := 2) dX12_noise_72 rfl rfl ?_
      refine r_ist (pc := 73) (2) dX12_noise_73 (kM280 hT) (ltM hT (by omega)) (by omega) (by rw [lM280 hT]; omega) ?_
      refine r_mem (I2 := sr (sr (sr (sr (sr (sr I 280 (un X 2 (L 2))) 286 P) 285 W) 284 (cpyR N 0 A 0 (tN N + 3902))) 274 K) 283 M) (by rw [up2_sr_ne (by decide), up2_sr_ne (by decide), up2_sr_ne (by decide), up2_sr_ne (by decide), up2_sr_ne (by decide), up2_sr]) ?_
      refine r_mem (I2 := sr (sr (sr (sr (sr I 286 P) 285 W) 284 (cpyR N 0 A 0 (tN N + 3902))) 274 K) 283 M) (by rw [nzB_eq hP.2.2.2, ← hI, sr_id]) ?_
      refine r_aload_n (pc := 74) (i := 0) dX12_noise_74 rfl rfl ?_
      refine r_callV0 (pc := 75) (d - 1) [] dX12_noise_75 (CV.mk2 mk_X12_laysBack lk_X12_308) (RC.of (ltM hT (by omega)) (kM274 hT) (by decide) rfl) rfl rfl (by omega) (Nat.le_of_ble_eq_true rfl) (Nat.le_of_ble_eq_true rfl) (c_laysBack (A := (cpyR N 0 A 0 (tN N + 3902))) hT (by omega) hRA ?_)
      refine ⟨rfl, fun _ => ?_⟩
      refine r_iload_n (pc := 78) (i := 3) dX12_noise_78 rfl rfl ?_
      have e : nzF L m 51 0 N = -2 := by rw [hP.2.1, show 51 - j = 0 by omega]; rfl
      exact r_iret (pc := 79) dX12_noise_79 trivial (by have h := hq1 ⟨by omega, by omega⟩ (cpyR N 0 A 0 (tN N + 3902)) (K) (cpyR (cpyR N 0 A 0 (tN N + 3902)) 0 M 0 (tN (cpyR N 0 A 0 (tN N + 3902)) + 3902)) (ag_bk (ag_cp N A) _) hP.2.2.1; rw [Int.toNat_natCast, e] at h; exact h)
    · refine r_iload_n (pc := 38) (i := 3) dX12_noise_38 rfl rfl ?_
      refine r_if_ge (pc := 39) (tgt := 67) dX12_noise_39 rfl (fun c39 => absurd c39 (by omega)) (fun c39 => ?_)
      refine r_aload_n (pc := 42) (i := 0) dX12_noise_42 rfl rfl ?_
      refine r_getfr (pc := 43) (b := 280) cks dX12_noise_43 fl_X12_27 rfl (kM274 hT) (ltM hT (by omega)) (rM6 hT) ?_
      refine r_iconst (pc := 46) dX12_noise_46 (in32_of rfl) ?_
      refine r_iload (pc := 47) (i := 4) dX12_noise_47 rfl ?_
      refine r_ist (pc := 49) (2) dX12_noise_49 (kM280 hT) (ltM hT (by omega)) (by omega) (by rw [lM280 hT]; omega) ?_
      refine r_mem (I2 := sr (sr (sr (sr (sr (sr I 280 (un X 2 (-10 * ((j : Nat) : Int) + 500))) 286 P) 285 W) 284 (cpyR N 0 A 0 (tN N + 3902))) 274 K) 283 M) (by rw [up2_sr_ne (by decide), up2_sr_ne (by decide), up2_sr_ne (by decide), up2_sr_ne (by decide), up2_sr_ne (by decide), up2_sr]) ?_
      refine r_mem (I2 := sr (sr (sr (sr (sr (sr I 280 (nzP L j)) 286 P) 285 W) 284 (cpyR N 0 A 0 (tN N + 3902))) 274 K) 283 M) (by rw [show (-10 * ((j : Nat) : Int) + 500) = 500 - 10 * (j : Int) by omega, nzP_eq hP.2.2.2]) ?_
      refine r_aload_n (pc := 50) (i := 0) dX12_noise_50 rfl rfl ?_
      refine r_iload_n (pc := 51) (i := 1) dX12_noise_51 rfl rfl ?_
      refine r_callV1 (pc := 52) (d - 1) [aI ((m : Nat) : Int)] dX12_noise_52 (CV.mk2 mk_X12_isGoodBy lk_X12_322) (RC.of (ltM hT (by omega)) (kM274 hT) (by decide) rfl) rfl rfl (by omega) (Nat.le_of_ble_eq_true rfl) (Nat.le_of_ble_eq_true rfl) (c_isGoodBy (m := m) (L := nzP L j) hT (by omega) (by omega) (sr_row _ _ _) (nzP_ok hL (by omega)) hK7 (fun K2 hK2 => ?_))
      refine ⟨_, rfl, fun _ => ?_⟩
      refine r_if_eq (pc := 55) (tgt := 61) dX12_noise_55 rfl (fun c55 => ?_) (fun c55 => ?_)
      · refine r_iincN (pc := 61) (i := 4) (c := (-10 * ((j : Nat) : Int) + 490)) (lv' := [_, _, _, _, _]) dX12_noise_61 rfl (by decide) (by unfold w32; omega) rfl ?_
        refine r_goto (pc := 64) (tgt := 33) dX12_noise_64 rfl ?_
        exact Ev.re (by rw [show (-10 * ((j : Nat) : Int) + 490) = (-10 * ((j + 1 : Nat) : Int) + 500) by omega]) rfl (ih (j + 1) K2 (igF (nzP L j) m 0 M).2 (nzP L j) ⟨by omega, by rw [hP.2.1, show 51 - j = (51 - (j + 1)) + 1 by omega, nzF_succ, if_pos c55], kpF_trans hP.2.2.1 hK2, fun k hk => un_ne hk⟩ (by omega))
      · refine r_iload (pc := 58) (i := 4) dX12_noise_58 rfl ?_
        refine r_istore_n (pc := 60) (i := 3) (lv' := [_, _, _, _, _]) dX12_noise_60 rfl (by decide) rfl ?_
        refine r_iincN (pc := 61) (i := 4) (c := (-10 * ((j : Nat) : Int) + 490)) (lv' := [_, _, _, _, _]) dX12_noise_61 rfl (by decide) (by unfold w32; omega) rfl ?_
        refine r_goto (pc := 64) (tgt := 33) dX12_noise_64 rfl ?_
        refine r_iload (pc := 33) (i := 4) dX12_noise_33 rfl ?_
        refine r_if_lt (pc := 35) (tgt := 67) dX12_noise_35 rfl (fun c35 => ?_) (fun c35 => ?_)
        · refine r_aload_n (pc := 67) (i := 0) dX12_noise_67 rfl rfl ?_
          refine r_getfr (pc := 68) (b := 280) cks dX12_noise_68 fl_X12_27 rfl (kM274 hT) (ltM hT (by omega)) (rM6 hT) ?_
          refine r_iconst (pc := 71) dX12_noise_71 (in32_of rfl) ?_
          refine r_iload_n (pc := 72) (i := 2) dX12_noise_72 rfl rfl ?_
          refine r_ist (pc := 73) (2) dX12_noise_73 (kM280 hT) (ltM hT (by omega)) (by omega) (by rw [lM280 hT]; omega) ?_
          refine r_mem (I2 := sr (sr (sr (sr (sr (sr I 280 (un (nzP L j) 2 (L 2))) 286 P) 285 W) 284 (cpyR N 0 A 0 (tN N + 3902))) 274 K2) 283 ((igF (nzP L j) m 0 M).2)) (by rw [up2_sr_ne (by decide), up2_sr_ne (by decide), up2_sr_ne (by decide), up2_sr_ne (by decide), up2_sr_ne (by decide), up2_sr]) ?_
          refine r_mem (I2 := sr (sr (sr (sr (sr I 286 P) 285 W) 284 (cpyR N 0 A 0 (tN N + 3902))) 274 K2) 283 ((igF (nzP L j) m 0 M).2)) (by rw [nzB_eq (L := L) (X := nzP L j) (fun k hk => un_ne hk), ← hI, sr_id]) ?_
          refine r_aload_n (pc := 74) (i := 0) dX12_noise_74 rfl rfl ?_
          refine r_callV0 (pc := 75) (d - 1) [] dX12_noise_75 (CV.mk2 mk_X12_laysBack lk_X12_308) (RC.of (ltM hT (by omega)) (kM274 hT) (by decide) rfl) rfl rfl (by omega) (Nat.le_of_ble_eq_true rfl) (Nat.le_of_ble_eq_true rfl) (c_laysBack (A := (cpyR N 0 A 0 (tN N + 3902))) hT (by omega) hRA ?_)
          refine ⟨rfl, fun _ => ?_⟩
          refine r_iload_n (pc := 78) (i := 3) dX12_noise_78 rfl rfl ?_
          have e : nzF L m 51 0 N = (-10 * ((j : Nat) : Int) + 500) := by rw [hP.2.1, show 51 - j = (51 - (j + 1)) + 1 by omega, nzF_succ, if_neg c55]; omega
          exact r_iret (pc := 79) dX12_noise_79 trivial (by have h := hq1 ⟨by omega, by omega⟩ (cpyR N 0 A 0 (tN N + 3902)) (K2) (cpyR (cpyR N 0 A 0 (tN N + 3902)) 0 ((igF (nzP L j) m 0 M).2) 0 (tN (cpyR N 0 A 0 (tN N + 3902)) + 3902)) (ag_bk (ag_cp N A) _) (kpF_trans hP.2.2.1 hK2); rw [Int.toNat_natCast, e] at h; exact h)
        · refine r_iload_n (pc := 38) (i := 3) dX12_noise_38 rfl rfl ?_
          refine r_if_ge (pc := 39) (tgt := 67) dX12_noise_39 rfl (fun c39 => ?_) (fun c39 => absurd (by omega) c39)
          refine r_aload_n (pc := 67) (i := 0) dX12_noise_67 rfl rfl ?_
          refine r_getfr (pc := 68) (b := 280) cks dX12_noise_68 fl_X12_27 rfl (kM274 hT) (ltM hT (by omega)) (rM6 hT) ?_
          refine r_iconst (pc := 71) dX12_noise_71 (in32_of rfl) ?_
          refine r_iload_n (pc := 72) (i := 2) dX12_noise_72 rfl rfl ?_
          refine r_ist (pc := 73) (2) dX12_noise_73 (kM280 hT) (ltM hT (by omega)) (by omega) (by rw [lM280 hT]; omega) ?_
          refine r_mem (I2 := sr (sr (sr (sr (sr (sr I 280 (un (nzP L j) 2 (L 2))) 286 P) 285 W) 284 (cpyR N 0 A 0 (tN N + 3902))) 274 K2) 283 ((igF (nzP L j) m 0 M).2)) (by rw [up2_sr_ne (by decide), up2_sr_ne (by decide), up2_sr_ne (by decide), up2_sr_ne (by decide), up2_sr_ne (by decide), up2_sr]) ?_
          refine r_mem (I2 := sr (sr (sr (sr (sr I 286 P) 285 W) 284 (cpyR N 0 A 0 (tN N + 3902))) 274 K2) 283 ((igF (nzP L j) m 0 M).2)) (by rw [nzB_eq (L := L) (X := nzP L j) (fun k hk => un_ne hk), ← hI, sr_id]) ?_
          refine r_aload_n (pc := 74) (i := 0) dX12_noise_74 rfl rfl ?_
          refine r_callV0 (pc := 75) (d - 1) [] dX12_noise_75 (CV.mk2 mk_X12_laysBack lk_X12_308) (RC.of (ltM hT (by omega)) (kM274 hT) (by decide) rfl) rfl rfl (by omega) (Nat.le_of_ble_eq_true rfl) (Nat.le_of_ble_eq_true rfl) (c_laysBack (A := (cpyR N 0 A 0 (tN N + 3902))) hT (by omega) hRA ?_)
          refine ⟨rfl, fun _ => ?_⟩
          refine r_iload_n (pc := 78) (i := 3) dX12_noise_78 rfl rfl ?_
          have e : nzF L m 51 0 N = (-10 * ((j : Nat) : Int) + 500) := by rw [hP.2.1, show 51 - j = (51 - (j + 1)) + 1 by omega, nzF_succ, if_neg c55]; omega
          exact r_iret (pc := 79) dX12_noise_79 trivial (by have h := hq1 ⟨by omega, by omega⟩ (cpyR N 0 A 0 (tN N + 3902)) (K2) (cpyR (cpyR N 0 A 0 (tN N + 3902)) 0 ((igF (nzP L j) m 0 M).2) 0 (tN (cpyR N 0 A 0 (tN N + 3902)) + 3902)) (ag_bk (ag_cp N A) _) (kpF_trans hP.2.2.1 hK2); rw [Int.toNat_natCast, e] at h; exact h)
  · have c9 := bi_if.mp (Decidable.of_not_not c9)
    refine r_iconst (pc := 12) dX12_noise_12 (in32_of rfl) ?_
    exact r_iret (pc := 13) dX12_noise_13 trivial (by have h := hq0 (fun h => by omega); rw [← hI, sr_id]; exact h)
end M44
