section M17
variable {G : Gl} {d : Nat} {T : Sh} {I : Mi} {N : Nat → Int} {Q : Option AV → Sh → Mi → Prop}
def okSl (N : Nat → Int) (n : Nat) (p : Int) : Prop := (0 ≤ p ∧ p < (n : Int)) ∧ (1 ≤ N 0 ∧ N 0 ≤ 3)
def slF (N : Nat → Int) (p : Int) : Nat → Int := un N (p.toNat + 532) (1 - N (p.toNat + 532))
theorem Rng_sl {N : Nat → Int} {p : Int} (h : Rng N) (h0 : 0 ≤ p) (h1 : p < 256) : Rng (slF N p) := by
  have := Rng_key (j := p.toNat + 532) h (by omega) (by omega)
  exact Rng_unK h (by omega) (by omega) (by omega)
theorem c_slip {n : Nat} {p : Int} {u : Nat} {P W A H : Nat → Int} (hT : ShM T) (hd : 3 ≤ d) (hR : Rng N) (hw : wOk W) (hu : H 16 = (u : Int)) (hu2 : u ≤ 12) (hn : N 1 = (n : Int)) (hn2 : n ≤ 256) (hq0 : ¬ okSl N n p → Q (some (aI (-1))) T (sr (sr (sr (sr (sr I 286 P) 285 W) 284 A) 274 H) 283 N)) (hq1 : okSl N n p → Q (some (aI ((unl (slF N p) n : Nat) : Int))) T (sr (sr (sr (sr (sr I 286 P) 285 (kaW W N u)) 284 A) 274 (un H 16 ((kaU u : Nat) : Int))) 283 (slF N p))) : EvE G mX12_slip d [aR 274, aI p] T (sr (sr (sr (sr (sr I 286 P) 285 W) 284 A) 274 H) 283 N) Q := by
  refine EvE.mk (lv0 := [some (aR 274), some (aI p)]) (Nat.le_of_ble_eq_true rfl) (by decide +kernel) rfl ?_
  refine r_aload_n (pc := 0) (i := 0) dX12_slip_0 rfl rfl ?_
  refine r_iload_n (pc := 1) (i := 1) dX12_slip_1 rfl rfl ?_
  refine r_callV1 (pc := 2) (d - 1) [aI p] dX12_slip_2 (CV.mk2 mk_X12_isPlace lk_X12_232) (RC.of (ltM hT (by omega)) (kM274 hT) (by decide) rfl) rfl rfl (by omega) (Nat.le_of_ble_eq_true rfl) (Nat.le_of_ble_eq_true rfl) (c_isPlace hT hn ?_)
  refine ⟨_, rfl, fun _ => ?_⟩
  refine r_if_eq (pc := 5) (tgt := 25) dX12_slip_5 rfl (fun c5 => ?_) (fun c5 => ?_)
  · have c5 := bi_if.mp c5
    refine r_iconst (pc := 25) dX12_slip_25 (in32_of rfl) ?_
    exact r_iret (pc := 26) dX12_slip_26 trivial (hq0 (fun h => by unfold okSl at h; omega))
  · have c5 := bi_1 c5
    refine r_aload_n (pc := 8) (i := 0) dX12_slip_8 rfl rfl ?_
    refine r_getfr (pc := 9) (b := 283) cks dX12_slip_9 fl_X12_37 rfl (kM274 hT) (ltM hT (by omega)) (rM11 hT) ?_
    refine r_iconst (pc := 12) dX12_slip_12 (in32_of rfl) ?_
    refine r_ild (pc := 13) (0) dX12_slip_13 (kM283 hT) (ltM hT (by omega)) (by omega) (by rw [lM283 hT]; omega) ?_
    refine r_top (b := N 0) (sr_at _ _ _ _) ?_
    refine r_i2l (pc := 14) dX12_slip_14 ?_
    refine r_lconst (pc := 15) (z := 1) dX12_slip_15 rfl (in64_of rfl) ?_
    refine r_ldc2 (pc := 16) (n := 3) dX12_slip_16 cn_X12_235 (in64_of rfl) ?_
    refine r_callS1 (pc := 19) (d - 1) [aL (N 0), aL 1, aL 3] dX12_slip_19 (CS.mk2 mk_X12_isIn1 lk_X12_76) rfl rfl (by omega) (Nat.le_of_ble_eq_true rfl) (Nat.le_of_ble_eq_true rfl) (c_isIn1 ?_)
    refine ⟨_, rfl, fun _ => ?_⟩
    refine r_if_ne (pc := 22) (tgt := 27) dX12_slip_22 rfl (fun c22 => ?_) (fun c22 => ?_)
    · have c22 := bi_1 c22
      refine r_aload_n (pc := 27) (i := 0) dX12_slip_27 rfl rfl ?_
      refine r_callV0 (pc := 28) (d - 1) [] dX12_slip_28 (CV.mk2 mk_X12_keepsAct lk_X12_149) (RC.of (ltM hT (by omega)) (kM274 hT) (by decide) rfl) rfl rfl (by omega) (Nat.le_of_ble_eq_true rfl) (Nat.le_of_ble_eq_true rfl) (c_keepsAct (u := u) (P := P) (W := W) (A := A) (H := H) (N := N) hT (by omega) hR hw hu hu2 ?_)
      refine ⟨rfl, fun _ => ?_⟩
      refine r_aload_n (pc := 31) (i := 0) dX12_slip_31 rfl rfl ?_
      refine r_getfr (pc := 32) (b := 283) cks dX12_slip_32 fl_X12_37 rfl (kM274 hT) (ltM hT (by omega)) (rM11 hT) ?_
      refine r_sipush (pc := 35) dX12_slip_35 rfl (in32_of rfl) ?_
      refine r_iload_n (pc := 38) (i := 1) dX12_slip_38 rfl rfl ?_
      refine r_iaddN (pc := 39) (c := (p + 532)) dX12_slip_39 (by unfold w32; omega) ?_
      refine r_iconst (pc := 40) dX12_slip_40 (in32_of rfl) ?_
      refine r_aload_n (pc := 41) (i := 0) dX12_slip_41 rfl rfl ?_
      refine r_getfr (pc := 42) (b := 283) cks dX12_slip_42 fl_X12_37 rfl (kM274 hT) (ltM hT (by omega)) (rM11 hT) ?_
      refine r_sipush (pc := 45) dX12_slip_45 rfl (in32_of rfl) ?_
      refine r_iload_n (pc := 48) (i := 1) dX12_slip_48 rfl rfl ?_
      refine r_iaddN (pc := 49) (c := (p + 532)) dX12_slip_49 (by unfold w32; omega) ?_
      refine r_ild (pc := 50) (p.toNat + 532) dX12_slip_50 (kM283 hT) (ltM hT (by omega)) (by omega) (by rw [lM283 hT]; omega) ?_
      refine r_top (b := N (p.toNat + 532)) (sr_at _ _ _ _) ?_
      refine r_isubN (pc := 51) (c := (1 - N (p.toNat + 532))) dX12_slip_51 (by have := Rng_key (j := p.toNat + 532) hR (by omega) (by omega); unfold w32; omega) ?_
      refine r_ist (pc := 52) (p.toNat + 532) dX12_slip_52 (kM283 hT) (ltM hT (by omega)) (by omega) (by rw [lM283 hT]; omega) ?_
      refine r_mem (I2 := sr (sr (sr (sr (sr I 286 P) 285 (kaW W N u)) 284 A) 274 (un H 16 ((kaU u : Nat) : Int))) 283 (un N (p.toNat + 532) (1 - N (p.toNat + 532)))) (by rw [up2_sr]) ?_
      refine r_aload_n (pc := 53) (i := 0) dX12_slip_53 rfl rfl ?_
      refine r_callV1 (pc := 54) (d - 1) [] dX12_slip_54 (CV.mk2 mk_X12_unlikeMany lk_X12_237) (RC.of (ltM hT (by omega)) (kM274 hT) (by decide) rfl) rfl rfl (by omega) (Nat.le_of_ble_eq_true rfl) (Nat.le_of_ble_eq_true rfl) (c_unlikeMany (n := n) hT ((un_ne (by omega)).trans hn) hn2 ?_)
      refine ⟨_, rfl, fun _ => ?_⟩
      exact r_iret (pc := 57) dX12_slip_57 trivial (hq1 (by unfold okSl; omega))
    · have c22 := bi_if.mp (Decidable.of_not_not c22)
      refine r_iconst (pc := 25) dX12_slip_25 (in32_of rfl) ?_
      exact r_iret (pc := 26) dX12_slip_26 trivial (hq0 (fun h => by unfold okSl at h; omega))
def okSm (N : Nat → Int) : Prop := N 0 = 1
def okPs (I : Mi) (N : Nat → Int) : Prop := (N 0 = 2 ∨ N 0 = 3) ∧ ¬ N 2 = I 280 6
def okCk (N : Nat → Int) : Prop := N 0 = 2 ∨ N 0 = 3
theorem c_sample {n s : Nat} {u : Nat} {P W A H : Nat → Int} (hT : ShM T) (hd : 4 ≤ d) (hR : Rng N) (hw : wOk W) (hu : H 16 = (u : Int)) (hu2 : u ≤ 12) (hn : N 1 = (n : Int)) (hn2 : n ≤ 256) (h4 : N 0 = 1 → N 4 = 0) (hs : I 280 4 = (s : Int)) (hs2 : s ≤ 128) (hq0 : ¬ okSm N → Q (some (aI (-1))) T (sr (sr (sr (sr (sr I 286 P) 285 W) 284 A) 274 H) 283 N)) (hq1 : okSm N → Q (some (aI (smF N n s 4))) T (sr (sr (sr (sr (sr I 286 P) 285 (kaW W N u)) 284 A) 274 (un H 16 ((kaU u : Nat) : Int))) 283 (smF N n s))) : EvE G mX12_sample d [aR 274] T (sr (sr (sr (sr (sr I 286 P) 285 W) 284 A) 274 H) 283 N) Q := by
  refine EvE.mk (lv0 := [some (aR 274)]) (Nat.le_of_ble_eq_true rfl) (by decide +kernel) rfl ?_
  refine r_aload_n (pc := 0) (i := 0) dX12_sample_0 rfl rfl ?_
  refine r_getfr (pc := 1) (b := 283) cks dX12_sample_1 fl_X12_37 rfl (kM274 hT) (ltM hT (by omega)) (rM11 hT) ?_
  refine r_iconst (pc := 4) dX12_sample_4 (in32_of rfl) ?_
  refine r_ild (pc := 5) (0) dX12_sample_5 (kM283 hT) (ltM hT (by omega)) (by omega) (by rw [lM283 hT]; omega) ?_
  refine r_top (b := N 0) (sr_at _ _ _ _) ?_
  refine r_iconst (pc := 6) dX12_sample_6 (in32_of rfl) ?_
  refine r_icmp_eq (pc := 7) (tgt := 12) dX12_sample_7 rfl (fun c7 => ?_) (fun c7 => ?_)
  · have h4 := h4 c7
    refine r_aload_n (pc := 12) (i := 0) dX12_sample_12 rfl rfl ?_
    refine r_callV0 (pc := 13) (d - 1) [] dX12_sample_13 (CV.mk2 mk_X12_keepsAct lk_X12_149) (RC.of (ltM hT (by omega)) (kM274 hT) (by decide) rfl) rfl rfl (by omega) (Nat.le_of_ble_eq_true rfl) (Nat.le_of_ble_eq_true rfl) (c_keepsAct (u := u) (P := P) (W := W) (A := A) (H := H) (N := N) hT (by omega) hR hw hu hu2 ?_)
    refine ⟨rfl, fun _ => ?_⟩
    refine r_aload_n (pc := 16) (i := 0) dX12_sample_16 rfl rfl ?_
    refine r_callV0 (pc := 17) (d - 1) [] dX12_sample_17 (CV.mk2 mk_X12_samples lk_X12_158) (RC.of (ltM hT (by omega)) (kM274 hT) (by decide) rfl) rfl rfl (by omega) (Nat.le_of_ble_eq_true rfl) (Nat.le_of_ble_eq_true rfl) (c_samples (n := n) (s := s) (I := (sr (sr (sr (sr I 286 P) 285 (kaW W N u)) 284 A) 274 (un H 16 ((kaU u : Nat) : Int)))) (N := N) hT (by omega) hn hn2 hR h4 hs hs2 ?_)
    refine ⟨rfl, fun _ => ?_⟩
    refine r_aload_n (pc := 20) (i := 0) dX12_sample_20 rfl rfl ?_
    refine r_getfr (pc := 21) (b := 283) cks dX12_sample_21 fl_X12_37 rfl (kM274 hT) (ltM hT (by omega)) (rM11 hT) ?_
    refine r_iconst (pc := 24) dX12_sample_24 (in32_of rfl) ?_
    refine r_ild (pc := 25) (4) dX12_sample_25 (kM283 hT) (ltM hT (by omega)) (by omega) (by rw [lM283 hT]; omega) ?_
    refine r_top (b := (smF N n s) 4) (sr_at _ _ _ _) ?_
    exact r_iret (pc := 26) dX12_sample_26 trivial (hq1 (by unfold okSm; omega))
  · have h4 := h4
    refine r_iconst (pc := 10) dX12_sample_10 (in32_of rfl) ?_
    exact r_iret (pc := 11) dX12_sample_11 trivial (hq0 (fun h => by unfold okSm at h; omega))
theorem c_check {n h : Nat} {u : Nat} {P W A H : Nat → Int} (hT : ShM T) (hd : 4 ≤ d) (hR : Rng N) (hw : wOk W) (hu : H 16 = (u : Int)) (hu2 : u ≤ 12) (hn : N 1 = (n : Int)) (hn2 : n ≤ 256) (hh : I 280 7 = (h : Int)) (hh1 : 1 ≤ h) (hh2 : h ≤ 30) (ht : okCk N → tN N + h ≤ 13608) (hq0 : ¬ okCk N → Q (some (aI (-1))) T (sr (sr (sr (sr (sr I 286 P) 285 W) 284 A) 274 H) 283 N)) (hq1 : okCk N → Q (some (aI (isC (rwS N 2580 (n + h - 1)) n h))) T (sr (sr (sr (sr (sr I 286 P) 285 (kaW W N u)) 284 A) 274 (un H 16 ((kaU u : Nat) : Int))) 283 (ckF N n h))) : EvE G mX12_check d [aR 274] T (sr (sr (sr (sr (sr I 286 P) 285 W) 284 A) 274 H) 283 N) Q := by
  refine EvE.mk (lv0 := [some (aR 274)]) (Nat.le_of_ble_eq_true rfl) (by decide +kernel) rfl ?_
  refine r_aload_n (pc := 0) (i := 0) dX12_check_0 rfl rfl ?_
  refine r_callV1 (pc := 1) (d - 1) [] dX12_check_1 (CV.mk2 mk_X12_isMending lk_X12_201) (RC.of (ltM hT (by omega)) (kM274 hT) (by decide) rfl) rfl rfl (by omega) (Nat.le_of_ble_eq_true rfl) (Nat.le_of_ble_eq_true rfl) (c_isMending hT ?_)
  refine ⟨_, rfl, fun _ => ?_⟩
  refine r_if_ne (pc := 4) (tgt := 9) dX12_check_4 rfl (fun c4 => ?_) (fun c4 => ?_)
  · have c4 := bi_1 c4
    have ht := ht (by unfold okCk; omega)
    refine r_aload_n (pc := 9) (i := 0) dX12_check_9 rfl rfl ?_
    refine r_callV0 (pc := 10) (d - 1) [] dX12_check_10 (CV.mk2 mk_X12_keepsAct lk_X12_149) (RC.of (ltM hT (by omega)) (kM274 hT) (by decide) rfl) rfl rfl (by omega) (Nat.le_of_ble_eq_true rfl) (Nat.le_of_ble_eq_true rfl) (c_keepsAct (u := u) (P := P) (W := W) (A := A) (H := H) (N := N) hT (by omega) hR hw hu hu2 ?_)
    refine ⟨rfl, fun _ => ?_⟩
    refine r_aload_n (pc := 13) (i := 0) dX12_check_13 rfl rfl ?_
    refine r_callV1 (pc := 14) (d - 1) [] dX12_check_14 (CV.mk2 mk_X12_checks lk_X12_221) (RC.of (ltM hT (by omega)) (kM274 hT) (by decide) rfl) rfl rfl (by omega) (Nat.le_of_ble_eq_true rfl) (Nat.le_of_ble_eq_true rfl) (c_checks (n := n) (h := h) (I := (sr (sr (sr (sr I 286 P) 285 (kaW W N u)) 284 A) 274 (un H 16 ((kaU u : Nat) : Int)))) (N := N) hT (by omega) hn hn2 hR hh hh1 hh2 (by omega) ?_)
    refine ⟨_, rfl, fun _ => ?_⟩
    refine r_if_eq (pc := 17) (tgt := 24) dX12_check_17 rfl (fun c17 => ?_) (fun c17 => ?_)
    · refine r_iconst (pc := 24) dX12_check_24 (in32_of rfl) ?_
      exact r_iret (pc := 25) dX12_check_25 trivial (by have hz := isC_01 (rwS N 2580 (n + h - 1)) n h; have g := hq1 (by unfold okCk; omega); rw [show isC (rwS N 2580 (n + h - 1)) n h = 0 by omega] at g; exact g)
    · refine r_iconst (pc := 20) dX12_check_20 (in32_of rfl) ?_
      refine r_goto (pc := 21) (tgt := 25) dX12_check_21 rfl ?_
      exact r_iret (pc := 25) dX12_check_25 trivial (by have hz := isC_01 (rwS N 2580 (n + h - 1)) n h; have g := hq1 (by unfold okCk; omega); rw [show isC (rwS N 2580 (n + h - 1)) n h = 1 by omega] at g; exact g)
  · have c4 := bi_if.mp (Decidable.of_not_not c4)
    refine r_iconst (pc := 7) dX12_check_7 (in32_of rfl) ?_
    exact r_iret (pc := 8) dX12_check_8 trivial (hq0 (fun h => by unfold okCk at h; omega))
theorem c_pass {n B q : Nat} {u : Nat} {P W A H : Nat → Int} (hT : ShM T) (hd : 7 ≤ d) (hR : Rng N) (hw : wOk W) (hu : H 16 = (u : Int)) (hu2 : u ≤ 12) (hn : N 1 = (n : Int)) (hn2 : n ≤ 256) (hB : bkH I H = (B : Int)) (hB1 : 0 < B) (hB2 : B ≤ 64) (hdn : N 2 = (q : Int)) (hq6 : okPs I N → q < 6) (ho : ∀ p, p < q → ∀ k, k < n → oP N p k < n) (ht : okPs I N → tN N + nbk n (B * 2 ^ q) + 8 * 256 + 8 ≤ 13608) (hq0 : ¬ okPs I N → Q (some (aI (-1))) T (sr (sr (sr (sr (sr I 286 P) 285 W) 284 A) 274 H) 283 N)) (hq1 : okPs I N → ∀ fp fb, Q (some (aI (w32 (psF B N 7 - N 7)))) T (sr (sr (sr (sr (sr I 286 P) 285 (kaW W N u)) 284 A) 274 (un (un (un H 16 ((kaU u : Nat) : Int)) 18 fp) 19 fb)) 283 (psF B N))) : EvE G mX12_pass d [aR 274] T (sr (sr (sr (sr (sr I 286 P) 285 W) 284 A) 274 H) 283 N) Q := by
  refine EvE.mk (lv0 := [some (aR 274), none]) (Nat.le_of_ble_eq_true rfl) (by decide +kernel) rfl ?_
  refine r_aload_n (pc := 0) (i := 0) dX12_pass_0 rfl rfl ?_
  refine r_callV1 (pc := 1) (d - 1) [] dX12_pass_1 (CV.mk2 mk_X12_isMending lk_X12_201) (RC.of (ltM hT (by omega)) (kM274 hT) (by decide) rfl) rfl rfl (by omega) (Nat.le_of_ble_eq_true rfl) (Nat.le_of_ble_eq_true rfl) (c_isMending hT ?_)
  refine ⟨_, rfl, fun _ => ?_⟩
  refine r_if_eq (pc := 4) (tgt := 23) dX12_pass_4 rfl (fun c4 => ?_) (fun c4 => ?_)
  · have c4 := bi_if.mp c4
    refine r_iconst (pc := 23) dX12_pass_23 (in32_of rfl) ?_
    exact r_iret (pc := 24) dX12_pass_24 trivial (hq0 (fun h => by unfold okPs at h; omega))
  · have c4 := bi_1 c4
    refine r_aload_n (pc := 7) (i := 0) dX12_pass_7 rfl rfl ?_
    refine r_getfr (pc := 8) (b := 283) cks dX12_pass_8 fl_X12_37 rfl (kM274 hT) (ltM hT (by omega)) (rM11 hT) ?_
    refine r_iconst (pc := 11) dX12_pass_11 (in32_of rfl) ?_
    refine r_ild (pc := 12) (2) dX12_pass_12 (kM283 hT) (ltM hT (by omega)) (by omega) (by rw [lM283 hT]; omega) ?_
    refine r_top (b := N 2) (sr_at _ _ _ _) ?_
    refine r_aload_n (pc := 13) (i := 0) dX12_pass_13 rfl rfl ?_
    refine r_getfr (pc := 14) (b := 280) cks dX12_pass_14 fl_X12_27 rfl (kM274 hT) (ltM hT (by omega)) (rM6 hT) ?_
    refine r_bipush (pc := 17) dX12_pass_17 rfl (in32_of rfl) ?_
    refine r_ild (pc := 19) (6) dX12_pass_19 (kM280 hT) (ltM hT (by omega)) (by omega) (by rw [lM280 hT]; omega) ?_
    refine r_top (b := I 280 6) ((congrFun (sr_ne (by decide)) _).trans ((congrFun (sr_ne (by decide)) _).trans ((congrFun (sr_ne (by decide)) _).trans ((congrFun (sr_ne (by decide)) _).trans ((congrFun (sr_ne (by decide)) _).trans (rfl)))))) ?_
    refine r_icmp_ne (pc := 20) (tgt := 25) dX12_pass_20 rfl (fun c20 => ?_) (fun c20 => ?_)
    · have hok : okPs I N := by unfold okPs; omega
      have hq6 := hq6 hok
      have ht := ht hok
      refine r_aload_n (pc := 25) (i := 0) dX12_pass_25 rfl rfl ?_
      refine r_callV0 (pc := 26) (d - 1) [] dX12_pass_26 (CV.mk2 mk_X12_keepsAct lk_X12_149) (RC.of (ltM hT (by omega)) (kM274 hT) (by decide) rfl) rfl rfl (by omega) (Nat.le_of_ble_eq_true rfl) (Nat.le_of_ble_eq_true rfl) (c_keepsAct (u := u) (P := P) (W := W) (A := A) (H := H) (N := N) hT (by omega) hR hw hu hu2 ?_)
      refine ⟨rfl, fun _ => ?_⟩
      refine r_aload_n (pc := 29) (i := 0) dX12_pass_29 rfl rfl ?_
      refine r_getfr (pc := 30) (b := 283) cks dX12_pass_30 fl_X12_37 rfl (kM274 hT) (ltM hT (by omega)) (rM11 hT) ?_
      refine r_bipush (pc := 33) dX12_pass_33 rfl (in32_of rfl) ?_
      refine r_ild (pc := 35) (7) dX12_pass_35 (kM283 hT) (ltM hT (by omega)) (by omega) (by rw [lM283 hT]; omega) ?_
      refine r_top (b := N 7) (sr_at _ _ _ _) ?_
      refine r_istore_n (pc := 36) (i := 1) (lv' := [_, _]) dX12_pass_36 rfl (by decide) rfl ?_
      refine r_aload_n (pc := 37) (i := 0) dX12_pass_37 rfl rfl ?_
      refine r_callV0 (pc := 38) (d - 1) [] dX12_pass_38 (CV.mk2 mk_X12_passes lk_X12_204) (RC.of (ltM hT (by omega)) (kM274 hT) (by decide) rfl) rfl rfl (by omega) (Nat.le_of_ble_eq_true rfl) (Nat.le_of_ble_eq_true rfl) (c_passes (n := n) (B := B) (q := q) (H := un H 16 ((kaU u : Nat) : Int)) (I := (sr (sr (sr I 286 P) 285 (kaW W N u)) 284 A)) (N := N) hT (by omega) hn hn2 hB hB1 hB2 hR hq6 hdn ho ht (fun fp fb => ?_))
      refine ⟨rfl, fun _ => ?_⟩
      refine r_aload_n (pc := 41) (i := 0) dX12_pass_41 rfl rfl ?_
      refine r_getfr (pc := 42) (b := 283) cks dX12_pass_42 fl_X12_37 rfl (kM274 hT) (ltM hT (by omega)) (rM11 hT) ?_
      refine r_bipush (pc := 45) dX12_pass_45 rfl (in32_of rfl) ?_
      refine r_ild (pc := 47) (7) dX12_pass_47 (kM283 hT) (ltM hT (by omega)) (by omega) (by rw [lM283 hT]; omega) ?_
      refine r_top (b := (psF B N) 7) (sr_at _ _ _ _) ?_
      refine r_iload_n (pc := 48) (i := 1) dX12_pass_48 rfl rfl ?_
      refine r_isubN (pc := 49) (c := (w32 (psF B N 7 - N 7))) dX12_pass_49 rfl ?_
      exact r_iret (pc := 50) dX12_pass_50 trivial (hq1 (by unfold okPs; omega) fp fb)
    · have c20 := Decidable.of_not_not c20
      have hno := hq6
      refine r_iconst (pc := 23) dX12_pass_23 (in32_of rfl) ?_
      exact r_iret (pc := 24) dX12_pass_24 trivial (hq0 (fun h => by unfold okPs at h; omega))
end M17
