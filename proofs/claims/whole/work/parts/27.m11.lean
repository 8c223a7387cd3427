section M11
variable {G : Gl} {d : Nat} {T : Sh} {I : Mi} {N : Nat → Int} {Q : Option AV → Sh → Mi → Prop}
theorem c_passes {n B q : Nat} {H : Nat → Int} (hT : ShM T) (hd : 5 ≤ d) (hn : N 1 = (n : Int)) (hn2 : n ≤ 256) (hB : bkH I H = (B : Int)) (hB1 : 0 < B) (hB2 : B ≤ 64) (hR : Rng N) (hq6 : q < 6) (hdn : N 2 = (q : Int)) (ho : ∀ p, p < q → ∀ k, k < n → oP N p k < n) (ht : tN N + nbk n (B * 2 ^ q) + 8 * 256 + 8 ≤ 13608) (hq : ∀ fp fb, Q none T (sr (sr I 274 (un (un H 18 fp) 19 fb)) 283 (psF B N))) : EvE G mX12_passes d [aR 274] T (sr (sr I 274 H) 283 N) Q := by
  refine EvE.mk (lv0 := [some (aR 274), none, none, none]) (Nat.le_of_ble_eq_true rfl) (by decide +kernel) rfl ?_
  refine r_aload_n (pc := 0) (i := 0) dX12_passes_0 rfl rfl ?_
  refine r_getfr (pc := 1) (b := 283) cks dX12_passes_1 fl_X12_37 rfl (kM274 hT) (ltM hT (by omega)) (rM11 hT) ?_
  refine r_iconst (pc := 4) dX12_passes_4 (in32_of rfl) ?_
  refine r_ild (pc := 5) (2) dX12_passes_5 (kM283 hT) (ltM hT (by omega)) (by omega) (by rw [lM283 hT]; omega) ?_
  refine r_top (b := N 2) (sr_at _ _ _ _) ?_
  refine r_top (b := ((q : Nat) : Int)) (hdn) ?_
  refine r_istore_n (pc := 6) (i := 1) (lv' := [_, _, _, _]) dX12_passes_6 rfl (by decide) rfl ?_
  refine r_aload_n (pc := 7) (i := 0) dX12_passes_7 rfl rfl ?_
  refine r_iload_n (pc := 8) (i := 1) dX12_passes_8 rfl rfl ?_
  refine r_callV0 (pc := 9) (d - 1) [aI ((q : Nat) : Int)] dX12_passes_9 (CV.mk2 mk_X12_shuffles lk_X12_191) (RC.of (ltM hT (by omega)) (kM274 hT) (by decide) rfl) rfl rfl (by omega) (Nat.le_of_ble_eq_true rfl) (Nat.le_of_ble_eq_true rfl) (c_shuffles (n := n) (p := q) (N := N) hT (by omega) hn hn2 hR hq6 ?_)
  refine ⟨rfl, fun _ => ?_⟩
  refine r_iconst (pc := 12) dX12_passes_12 (in32_of rfl) ?_
  refine r_istore_n (pc := 13) (i := 2) (lv' := [_, _, _, _]) dX12_passes_13 rfl (by decide) rfl ?_
  refine r_mem (I2 := sr (sr I 274 (un (un H 18 (H 18)) 19 (H 19))) 283 (shF N q n)) (by rw [un2_id]) ?_
  have hsh := shF_ok (p := q) hR hq6 hn2
  have hRS := hsh.1
  have hoS := ordN_sh hq6 hn2 hR ho
  have hnS : shF N q n 1 = (n : Int) := (hsh.2.1 1 (by decide) (by omega)).trans hn
  have hdS : shF N q n 2 = (q : Int) := (hsh.2.1 2 (by decide) (by omega)).trans hdn
  have htS : tN (shF N q n) = tN N := by unfold tN; rw [hsh.2.1 3 (by decide) (by omega)]
  have huS := unl_le (shF N q n) n
  refine Ev.re (lv2 := [some (aR 274), some (aI ((q : Nat) : Int)), some (aI ((0 * (B * 2 ^ q) : Nat) : Int)), none]) (I2 := sr (sr I 274 (un (un H 18 (H 18)) 19 (H 19))) 283 (shF N q n)) (by rw [Nat.zero_mul]; rfl) rfl ?_
  refine loop3 (fun (j : Nat) (fp : Int) (fb : Int) => j ≤ nbk n (B * 2 ^ q)) (fun (j : Nat) (fp : Int) (fb : Int) => nbk n (B * 2 ^ q) - j) (fun (j : Nat) (fp : Int) (fb : Int) => [some (aR 274), some (aI ((q : Nat) : Int)), some (aI (((j * (B * 2 ^ q)) : Nat) : Int)), none]) (fun _ _ _ => T) (fun (j : Nat) (fp : Int) (fb : Int) => sr (sr I 274 (un (un H 18 fp) 19 fb)) 283 (psS B n q (shF N q n) j)) ?_ 0 (H 18) (H 19) (Nat.zero_le _)
  intro j fp fb hP ih
  have hP : j ≤ nbk n (B * 2 ^ q) := hP
  have hI := psS_ok hq6 hn2 hB1 hoS hRS (by omega) j hP
  have hRP := hI.1
  have hnP : psS B n q (shF N q n) j 1 = (n : Int) := (hI.2.1 1 (by decide) (by decide) (by decide) (by decide)).trans hnS
  have hdP : psS B n q (shF N q n) j 2 = (q : Int) := (hI.2.1 2 (by decide) (by decide) (by decide) (by decide)).trans hdS
  have hsz := sz_le (p := q) hB2 hq6
  have hsp : 0 < B * 2 ^ q := Nat.mul_pos hB1 (Nat.two_pow_pos q)
  have hnb := nbk_lt (e := n) (j := j) hsp
  have hln : lnB n (B * 2 ^ q) (j * (B * 2 ^ q)) = min (n - j * (B * 2 ^ q)) (B * 2 ^ q) := rfl
  have hjb : j * (B * 2 ^ q) ≤ 256 + 2048 := by
    rcases Nat.eq_zero_or_pos j with h | h
    · rw [h, Nat.zero_mul]; omega
    · have := (nbk_lt (e := n) (j := j - 1) hsp).mp (by omega); have e : j * (B * 2 ^ q) = (j - 1) * (B * 2 ^ q) + B * 2 ^ q := by rw [← Nat.succ_mul, show (j - 1).succ = j by omega]
      omega
  refine (?_ : Ev G mX12_passes d 14 [some (aR 274), some (aI ((q : Nat) : Int)), some (aI (((j * (B * 2 ^ q)) : Nat) : Int)), none] [] T (sr (sr I 274 (un (un H 18 fp) 19 fb)) 283 (psS B n q (shF N q n) j)) Q)
  refine r_iload_n (pc := 14) (i := 2) dX12_passes_14 rfl rfl ?_
  refine r_aload_n (pc := 15) (i := 0) dX12_passes_15 rfl rfl ?_
  refine r_getfr (pc := 16) (b := 283) cks dX12_passes_16 fl_X12_37 rfl (kM274 hT) (ltM hT (by omega)) (rM11 hT) ?_
  refine r_iconst (pc := 19) dX12_passes_19 (in32_of rfl) ?_
  refine r_ild (pc := 20) (1) dX12_passes_20 (kM283 hT) (ltM hT (by omega)) (by omega) (by rw [lM283 hT]; omega) ?_
  refine r_top (b := (psS B n q (shF N q n) j) 1) (sr_at _ _ _ _) ?_
  refine r_top (b := ((n : Nat) : Int)) (hnP) ?_
  refine r_icmp_ge (pc := 21) (tgt := 100) dX12_passes_21 rfl (fun c21 => ?_) (fun c21 => ?_)
  · refine r_aload_n (pc := 100) (i := 0) dX12_passes_100 rfl rfl ?_
    refine r_getfr (pc := 101) (b := 283) cks dX12_passes_101 fl_X12_37 rfl (kM274 hT) (ltM hT (by omega)) (rM11 hT) ?_
    refine r_iconst (pc := 104) dX12_passes_104 (in32_of rfl) ?_
    refine r_dup2 (pc := 105) dX12_passes_105 rfl rfl ?_
    refine r_ild (pc := 106) (2) dX12_passes_106 (kM283 hT) (ltM hT (by omega)) (by omega) (by rw [lM283 hT]; omega) ?_
    refine r_top (b := (psS B n q (shF N q n) j) 2) (sr_at _ _ _ _) ?_
    refine r_top (b := ((q : Nat) : Int)) (hdP) ?_
    refine r_iconst (pc := 107) dX12_passes_107 (in32_of rfl) ?_
    refine r_iaddN (pc := 108) (c := ((q + 1 : Nat) : Int)) dX12_passes_108 (by unfold w32; omega) ?_
    refine r_ist (pc := 109) (2) dX12_passes_109 (kM283 hT) (ltM hT (by omega)) (by omega) (by rw [lM283 hT]; omega) ?_
    refine r_mem (I2 := sr (sr I 274 (un (un H 18 fp) 19 fb)) 283 (un (psS B n q (shF N q n) j) 2 ((q + 1 : Nat) : Int))) (by rw [up2_sr]) ?_
    refine r_aload_n (pc := 110) (i := 0) dX12_passes_110 rfl rfl ?_
    refine r_getfr (pc := 111) (b := 283) cks dX12_passes_111 fl_X12_37 rfl (kM274 hT) (ltM hT (by omega)) (rM11 hT) ?_
    refine r_iconst (pc := 114) dX12_passes_114 (in32_of rfl) ?_
    refine r_iconst (pc := 115) dX12_passes_115 (in32_of rfl) ?_
    refine r_ist (pc := 116) (0) dX12_passes_116 (kM283 hT) (ltM hT (by omega)) (by omega) (by rw [lM283 hT]; omega) ?_
    refine r_mem (I2 := sr (sr I 274 (un (un H 18 fp) 19 fb)) 283 (un (un (psS B n q (shF N q n) j) 2 ((q + 1 : Nat) : Int)) 0 3)) (by rw [up2_sr]) ?_
    exact r_vret (pc := 117) dX12_passes_117 trivial (by have h := hq fp fb; unfold psF at h; rw [show nN N = n by unfold nN; omega, show (N 2).toNat = q by omega, show nbk n (B * 2 ^ q) = j by omega] at h; exact h)
  · have htP : tN (psS B n q (shF N q n) j) < 13608 := by have := hI.2.2.1; omega
    refine r_aload_n (pc := 24) (i := 0) dX12_passes_24 rfl rfl ?_
    refine r_iload_n (pc := 25) (i := 1) dX12_passes_25 rfl rfl ?_
    refine r_iload_n (pc := 26) (i := 2) dX12_passes_26 rfl rfl ?_
    refine r_callV1 (pc := 27) (d - 1) [aI ((q : Nat) : Int), aI (((j * (B * 2 ^ q)) : Nat) : Int)] dX12_passes_27 (CV.mk2 mk_X12_longOf lk_X12_182) (RC.of (ltM hT (by omega)) (kM274 hT) (by decide) rfl) rfl rfl (by omega) (Nat.le_of_ble_eq_true rfl) (Nat.le_of_ble_eq_true rfl) (c_longOf (p := q) (b := (j * (B * 2 ^ q))) hT (by omega) hnP hn2 (bkI_H.trans hB) hB2 (by omega) (by omega) ?_)
    refine ⟨_, rfl, fun _ => ?_⟩
    refine r_istore_n (pc := 30) (i := 3) (lv' := [_, _, _, _]) dX12_passes_30 rfl (by decide) rfl ?_
    refine r_aload_n (pc := 31) (i := 0) dX12_passes_31 rfl rfl ?_
    refine r_iload_n (pc := 32) (i := 1) dX12_passes_32 rfl rfl ?_
    refine r_iload_n (pc := 33) (i := 2) dX12_passes_33 rfl rfl ?_
    refine r_iload_n (pc := 34) (i := 3) dX12_passes_34 rfl rfl ?_
    refine r_callV1 (pc := 35) (d - 1) [aI ((q : Nat) : Int), aI (((j * (B * 2 ^ q)) : Nat) : Int), aI (((lnB n (B * 2 ^ q) (j * (B * 2 ^ q))) : Nat) : Int)] dX12_passes_35 (CV.mk2 mk_X12_asks lk_X12_173) (RC.of (ltM hT (by omega)) (kM274 hT) (by decide) rfl) rfl rfl (by omega) (Nat.le_of_ble_eq_true rfl) (Nat.le_of_ble_eq_true rfl) (c_asks (p := q) (b := (j * (B * 2 ^ q))) (m := (lnB n (B * 2 ^ q) (j * (B * 2 ^ q)))) (N := psS B n q (shF N q n) j) hT (by omega) hRP (by omega) (by omega) (by omega) ?_)
    refine ⟨_, rfl, fun _ => ?_⟩
    refine r_if_ne (pc := 38) (tgt := 44) dX12_passes_38 rfl (fun c38 => ?_) (fun c38 => ?_)
    · have c38 : ¬ ukO (psS B n q (shF N q n) j) q (j * (B * 2 ^ q)) (lnB n (B * 2 ^ q) (j * (B * 2 ^ q))) = 0 := c38
      have hIX := mInv_first hq6 hn2 hoS hI (by omega) (by omega) (by omega) (ukO_n0 c38)
      have hRA := Rng_ask (p := q) (b := j * (B * 2 ^ q)) (m := lnB n (B * 2 ^ q) (j * (B * 2 ^ q))) hRP (by omega)
      have hIt := hI.2.2.1
      have htA := askF_t (psS B n q (shF N q n) j) q (j * (B * 2 ^ q)) (lnB n (B * 2 ^ q) (j * (B * 2 ^ q)))
      refine r_aload_n (pc := 44) (i := 0) dX12_passes_44 rfl rfl ?_
      refine r_iload_n (pc := 45) (i := 1) dX12_passes_45 rfl rfl ?_
      refine r_iload_n (pc := 46) (i := 2) dX12_passes_46 rfl rfl ?_
      refine r_iload_n (pc := 47) (i := 3) dX12_passes_47 rfl rfl ?_
      refine r_callV0 (pc := 48) (d - 1) [aI ((q : Nat) : Int), aI (((j * (B * 2 ^ q)) : Nat) : Int), aI (((lnB n (B * 2 ^ q) (j * (B * 2 ^ q))) : Nat) : Int)] dX12_passes_48 (CV.mk2 mk_X12_halves lk_X12_194) (RC.of (ltM hT (by omega)) (kM274 hT) (by decide) rfl) rfl rfl (by omega) (Nat.le_of_ble_eq_true rfl) (Nat.le_of_ble_eq_true rfl) (c_halves (p := q) (b := (j * (B * 2 ^ q))) (r := (lnB n (B * 2 ^ q) (j * (B * 2 ^ q)))) (N := askF (psS B n q (shF N q n) j) q (j * (B * 2 ^ q)) (lnB n (B * 2 ^ q) (j * (B * 2 ^ q)))) hT (by omega) hRA (by omega) (by omega) (by omega) (by omega) ?_)
      refine ⟨rfl, fun _ => ?_⟩
      refine loop4 (fun (u : Nat) (M : Nat → Int) (fp : Int) (fb : Int) => mnS B n q (j * (B * 2 ^ q) + lnB n (B * 2 ^ q) (j * (B * 2 ^ q))) 256 (hvF (askF (psS B n q (shF N q n) j) q (j * (B * 2 ^ q)) (lnB n (B * 2 ^ q) (j * (B * 2 ^ q)))) q (j * (B * 2 ^ q)) (lnB n (B * 2 ^ q) (j * (B * 2 ^ q)))) = mnS B n q (j * (B * 2 ^ q) + lnB n (B * 2 ^ q) (j * (B * 2 ^ q))) u M ∧ mInv (shF N q n) M n (j + 1) ∧ unl M n ≤ u) (fun (u : Nat) (M : Nat → Int) (fp : Int) (fb : Int) => u) (fun (u : Nat) (M : Nat → Int) (fp : Int) (fb : Int) => [some (aR 274), some (aI ((q : Nat) : Int)), some (aI (((j * (B * 2 ^ q)) : Nat) : Int)), some (aI (((lnB n (B * 2 ^ q) (j * (B * 2 ^ q))) : Nat) : Int))]) (fun _ _ _ _ => T) (fun (u : Nat) (M : Nat → Int) (fp : Int) (fb : Int) => sr (sr I 274 (un (un H 18 fp) 19 fb)) 283 M) ?_ 256 (hvF (askF (psS B n q (shF N q n) j) q (j * (B * 2 ^ q)) (lnB n (B * 2 ^ q) (j * (B * 2 ^ q)))) q (j * (B * 2 ^ q)) (lnB n (B * 2 ^ q) (j * (B * 2 ^ q)))) fp fb ⟨rfl, hIX, by have := unl_le (hvF (askF (psS B n q (shF N q n) j) q (j * (B * 2 ^ q)) (lnB n (B * 2 ^ q) (j * (B * 2 ^ q)))) q (j * (B * 2 ^ q)) (lnB n (B * 2 ^ q) (j * (B * 2 ^ q)))) n; omega⟩
      intro u M fp fb hP2 ih2
      have hP2 : mnS B n q (j * (B * 2 ^ q) + lnB n (B * 2 ^ q) (j * (B * 2 ^ q))) 256 (hvF (askF (psS B n q (shF N q n) j) q (j * (B * 2 ^ q)) (lnB n (B * 2 ^ q) (j * (B * 2 ^ q)))) q (j * (B * 2 ^ q)) (lnB n (B * 2 ^ q) (j * (B * 2 ^ q)))) = mnS B n q (j * (B * 2 ^ q) + lnB n (B * 2 ^ q) (j * (B * 2 ^ q))) u M ∧ mInv (shF N q n) M n (j + 1) ∧ unl M n ≤ u := hP2
      have hRM := hP2.2.1.1
      have hnM : M 1 = (n : Int) := (hP2.2.1.2.1 1 (by decide) (by decide) (by decide) (by decide)).trans hnS
      refine (?_ : Ev G mX12_passes d 51 [some (aR 274), some (aI ((q : Nat) : Int)), some (aI (((j * (B * 2 ^ q)) : Nat) : Int)), some (aI (((lnB n (B * 2 ^ q) (j * (B * 2 ^ q))) : Nat) : Int))] [] T (sr (sr I 274 (un (un H 18 fp) 19 fb)) 283 M) Q)
      refine r_aload_n (pc := 51) (i := 0) dX12_passes_51 rfl rfl ?_
      refine r_iload_n (pc := 52) (i := 1) dX12_passes_52 rfl rfl ?_
      refine r_iload_n (pc := 53) (i := 2) dX12_passes_53 rfl rfl ?_
      refine r_iload_n (pc := 54) (i := 3) dX12_passes_54 rfl rfl ?_
      refine r_iaddN (pc := 55) (c := (((j * (B * 2 ^ q)) + (lnB n (B * 2 ^ q) (j * (B * 2 ^ q))) : Nat) : Int)) dX12_passes_55 (by unfold w32; omega) ?_
      refine r_callV1 (pc := 56) (d - 1) [aI ((q : Nat) : Int), aI (((j * (B * 2 ^ q)) + (lnB n (B * 2 ^ q) (j * (B * 2 ^ q))) : Nat) : Int)] dX12_passes_56 (CV.mk2 mk_X12_finds lk_X12_198) (RC.of (ltM hT (by omega)) (kM274 hT) (by decide) rfl) rfl rfl (by omega) (Nat.le_of_ble_eq_true rfl) (Nat.le_of_ble_eq_true rfl) (c_finds (n := n) (B := B) (q := q) (a := (j * (B * 2 ^ q)) + (lnB n (B * 2 ^ q) (j * (B * 2 ^ q)))) (N := M) hT (by omega) hnM hn2 hB hB1 hB2 hRM hq6 (by omega) (fun fp2 fb2 hok => ?_))
      refine ⟨_, rfl, fun _ => ?_⟩
      refine r_mem (I2 := sr (sr I 274 (un (un H 18 fp2) 19 fb2)) 283 M) (by rw [un2_2]) ?_
      refine r_if_eq (pc := 59) (tgt := 89) dX12_passes_59 rfl (fun c59 => ?_) (fun c59 => ?_)
      · have c59 := bi_if.mp c59
        refine r_iload_n (pc := 89) (i := 2) dX12_passes_89 rfl rfl ?_
        refine r_aload_n (pc := 90) (i := 0) dX12_passes_90 rfl rfl ?_
        refine r_iload_n (pc := 91) (i := 1) dX12_passes_91 rfl rfl ?_
        refine r_callV1 (pc := 92) (d - 1) [aI ((q : Nat) : Int)] dX12_passes_92 (CV.mk2 mk_X12_blockOf lk_X12_179) (RC.of (ltM hT (by omega)) (kM274 hT) (by decide) rfl) rfl rfl (by omega) (Nat.le_of_ble_eq_true rfl) (Nat.le_of_ble_eq_true rfl) (c_blockOf (p := q) hT (bkI_H.trans hB) hB2 (by omega) ?_)
        refine ⟨_, rfl, fun _ => ?_⟩
        refine r_iaddN (pc := 95) (c := (((j * (B * 2 ^ q)) + (B * 2 ^ q) : Nat) : Int)) dX12_passes_95 (by unfold w32; omega) ?_
        refine r_istore_n (pc := 96) (i := 2) (lv' := [_, _, _, _]) dX12_passes_96 rfl (by decide) rfl ?_
        refine r_goto (pc := 97) (tgt := 14) dX12_passes_97 rfl ?_
        refine Ev.weak (lv2 := [some (aR 274), some (aI ((q : Nat) : Int)), some (aI (((j * (B * 2 ^ q)) + (B * 2 ^ q) : Nat) : Int)), none]) ⟨Or.inr rfl, Or.inr rfl, Or.inr rfl, Or.inl rfl, trivial⟩ ?_
        have hnone := bst_none hB1 hn2 c59
        have hu : psS B n q (shF N q n) (j + 1) = M := by rw [psS_succ]; unfold psT; rw [if_pos (ukO_n0 c38), hP2.1]; exact mnS_none hnone u
        exact Ev.re (by rw [Nat.succ_mul]) (by rw [hu]) (ih (j + 1) fp2 fb2 (by omega) (by omega))
      · have c59 := bi_1 c59
        obtain ⟨t, ht⟩ := bst_some c59
        have hk2 := hok t ht
        have hmv := mInv_hv hq6 hn2 hB1 (by omega) hoS hP2.2.1 (by omega) ht
        obtain ⟨l2, p2, b2⟩ := t
        have hfp : fp2 = (p2 : Int) := hk2.1
        have hfb : fb2 = (b2 : Int) := hk2.2
        subst hfp
        subst hfb
        have hm3 : p2 ≤ q ∧ b2 < n ∧ b2 + lnB n (B * 2 ^ p2) b2 ≤ n ∧ 0 < lnB n (B * 2 ^ p2) b2 := hmv.2.2
        have hm4 : unl (hvF M p2 b2 (lnB n (B * 2 ^ p2) b2)) n + 1 = unl M n := hmv.2.1
        obtain ⟨v, rfl⟩ : ∃ v, u = v + 1 := ⟨u - 1, by omega⟩
        have htM : tN M + 8 ≤ 13608 := by have := hP2.2.1.2.2.1; omega
        refine r_aload_n (pc := 62) (i := 0) dX12_passes_62 rfl rfl ?_
        refine r_aload_n (pc := 63) (i := 0) dX12_passes_63 rfl rfl ?_
        refine r_getfi (pc := 64) cks dX12_passes_64 fl_X12_185 rfl (kM274 hT) (ltM hT (by omega)) ?_
        refine r_top (b := (un (un H 18 ((p2 : Nat) : Int)) 19 ((b2 : Nat) : Int)) 18) ((congrFun (sr_ne (by decide)) _).trans (sr_at _ _ _ _)) ?_
        refine r_top (b := (un H 18 ((p2 : Nat) : Int)) 18) (un_ne (by omega)) ?_
        refine r_top (b := ((p2 : Nat) : Int)) (un_at) ?_
        refine r_aload_n (pc := 67) (i := 0) dX12_passes_67 rfl rfl ?_
        refine r_getfi (pc := 68) cks dX12_passes_68 fl_X12_188 rfl (kM274 hT) (ltM hT (by omega)) ?_
        refine r_top (b := (un (un H 18 ((p2 : Nat) : Int)) 19 ((b2 : Nat) : Int)) 19) ((congrFun (sr_ne (by decide)) _).trans (sr_at _ _ _ _)) ?_
        refine r_top (b := ((b2 : Nat) : Int)) (un_at) ?_
        refine r_aload_n (pc := 71) (i := 0) dX12_passes_71 rfl rfl ?_
        refine r_aload_n (pc := 72) (i := 0) dX12_passes_72 rfl rfl ?_
        refine r_getfi (pc := 73) cks dX12_passes_73 fl_X12_185 rfl (kM274 hT) (ltM hT (by omega)) ?_
        refine r_top (b := (un (un H 18 ((p2 : Nat) : Int)) 19 ((b2 : Nat) : Int)) 18) ((congrFun (sr_ne (by decide)) _).trans (sr_at _ _ _ _)) ?_
        refine r_top (b := (un H 18 ((p2 : Nat) : Int)) 18) (un_ne (by omega)) ?_
        refine r_top (b := ((p2 : Nat) : Int)) (un_at) ?_
        refine r_aload_n (pc := 76) (i := 0) dX12_passes_76 rfl rfl ?_
        refine r_getfi (pc := 77) cks dX12_passes_77 fl_X12_188 rfl (kM274 hT) (ltM hT (by omega)) ?_
        refine r_top (b := (un (un H 18 ((p2 : Nat) : Int)) 19 ((b2 : Nat) : Int)) 19) ((congrFun (sr_ne (by decide)) _).trans (sr_at _ _ _ _)) ?_
        refine r_top (b := ((b2 : Nat) : Int)) (un_at) ?_
        refine r_callV1 (pc := 80) (d - 1) [aI ((p2 : Nat) : Int), aI ((b2 : Nat) : Int)] dX12_passes_80 (CV.mk2 mk_X12_longOf lk_X12_182) (RC.of (ltM hT (by omega)) (kM274 hT) (by decide) rfl) rfl rfl (by omega) (Nat.le_of_ble_eq_true rfl) (Nat.le_of_ble_eq_true rfl) (c_longOf (p := p2) (b := b2) hT (by omega) hnM hn2 (bkI_H.trans hB) hB2 (by omega) (by omega) ?_)
        refine ⟨_, rfl, fun _ => ?_⟩
        refine r_callV0 (pc := 83) (d - 1) [aI ((p2 : Nat) : Int), aI ((b2 : Nat) : Int), aI (((lnB n (B * 2 ^ p2) b2) : Nat) : Int)] dX12_passes_83 (CV.mk2 mk_X12_halves lk_X12_194) (RC.of (ltM hT (by omega)) (kM274 hT) (by decide) rfl) rfl rfl (by omega) (Nat.le_of_ble_eq_true rfl) (Nat.le_of_ble_eq_true rfl) (c_halves (p := p2) (b := b2) (r := (lnB n (B * 2 ^ p2) b2)) (N := M) hT (by omega) hRM (by omega) (by omega) (by omega) (by omega) ?_)
        refine ⟨rfl, fun _ => ?_⟩
        refine r_goto (pc := 86) (tgt := 51) dX12_passes_86 rfl ?_
        exact ih2 v (hvF M p2 b2 (lnB n (B * 2 ^ p2) b2)) (p2 : Int) (b2 : Int) ⟨hP2.1.trans (mnS_some ht), hmv.1, by omega⟩ (by omega)
    · have c38 := Decidable.of_not_not c38
      have c38 : ukO (psS B n q (shF N q n) j) q (j * (B * 2 ^ q)) (lnB n (B * 2 ^ q) (j * (B * 2 ^ q))) = 0 := c38
      refine r_goto (pc := 41) (tgt := 89) dX12_passes_41 rfl ?_
      refine r_iload_n (pc := 89) (i := 2) dX12_passes_89 rfl rfl ?_
      refine r_aload_n (pc := 90) (i := 0) dX12_passes_90 rfl rfl ?_
      refine r_iload_n (pc := 91) (i := 1) dX12_passes_91 rfl rfl ?_
      refine r_callV1 (pc := 92) (d - 1) [aI ((q : Nat) : Int)] dX12_passes_92 (CV.mk2 mk_X12_blockOf lk_X12_179) (RC.of (ltM hT (by omega)) (kM274 hT) (by decide) rfl) rfl rfl (by omega) (Nat.le_of_ble_eq_true rfl) (Nat.le_of_ble_eq_true rfl) (c_blockOf (p := q) hT (bkI_H.trans hB) hB2 (by omega) ?_)
      refine ⟨_, rfl, fun _ => ?_⟩
      refine r_iaddN (pc := 95) (c := (((j * (B * 2 ^ q)) + (B * 2 ^ q) : Nat) : Int)) dX12_passes_95 (by unfold w32; omega) ?_
      refine r_istore_n (pc := 96) (i := 2) (lv' := [_, _, _, _]) dX12_passes_96 rfl (by decide) rfl ?_
      refine r_goto (pc := 97) (tgt := 14) dX12_passes_97 rfl ?_
      refine Ev.weak (lv2 := [some (aR 274), some (aI ((q : Nat) : Int)), some (aI (((j * (B * 2 ^ q)) + (B * 2 ^ q) : Nat) : Int)), none]) ⟨Or.inr rfl, Or.inr rfl, Or.inr rfl, Or.inl rfl, trivial⟩ ?_
      have hu : psS B n q (shF N q n) (j + 1) = askF (psS B n q (shF N q n) j) q (j * (B * 2 ^ q)) (lnB n (B * 2 ^ q) (j * (B * 2 ^ q))) := by rw [psS_succ]; unfold psT; rw [if_neg (by omega)]
      exact Ev.re (by rw [Nat.succ_mul]) (by rw [hu]) (ih (j + 1) fp fb (by omega) (by omega))
end M11
