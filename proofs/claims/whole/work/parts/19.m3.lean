section M3
variable {G : Gl} {d : Nat} {T : Sh} {I : Mi} {N : Nat → Int} {Q : Option AV → Sh → Mi → Prop}
theorem c_spied {n : Nat} {p : Int} (hT : ShM T) (hd : 2 ≤ d) (hn : N 1 = (n : Int)) (hn2 : n ≤ 256) (hF : Fin_ N) (hq : Q (some (aI (spiA N n p))) T (sr I 283 N)) : EvE G mX12_spied d [aR 274, aI p] T (sr I 283 N) Q := by
  refine EvE.mk (lv0 := [some (aR 274), some (aI p), none, none]) (Nat.le_of_ble_eq_true rfl) (by decide +kernel) rfl ?_
  refine r_iload_n (pc := 0) (i := 1) dX12_spied_0 rfl rfl ?_
  refine r_iconst (pc := 1) dX12_spied_1 (in32_of rfl) ?_
  refine r_icmp_eq (pc := 2) (tgt := 31) dX12_spied_2 rfl (fun c2 => ?_) (fun c2 => ?_)
  · refine r_iconst (pc := 31) dX12_spied_31 (in32_of rfl) ?_
    refine r_istore_n (pc := 32) (i := 2) (lv' := [_, _, _, _]) dX12_spied_32 rfl (by decide) rfl ?_
    refine r_iconst (pc := 33) dX12_spied_33 (in32_of rfl) ?_
    refine r_istore_n (pc := 34) (i := 3) (lv' := [_, _, _, _]) dX12_spied_34 rfl (by decide) rfl ?_
    refine loop1 (fun (k : Nat) => k ≤ n) (fun (k : Nat) => n - k) (fun (k : Nat) => [some (aR 274), some (aI p), some (aI (((spM N k) : Nat) : Int)), some (aI ((k : Nat) : Int))]) (fun _ => T) (fun (k : Nat) => sr I 283 N) ?_ 0 (Nat.zero_le _)
    intro k hP ih
    have hP : k ≤ n := hP
    have := spM_le N k
    refine (?_ : Ev G mX12_spied d 35 [some (aR 274), some (aI p), some (aI (((spM N k) : Nat) : Int)), some (aI ((k : Nat) : Int))] [] T (sr I 283 N) Q)
    refine r_iload_n (pc := 35) (i := 3) dX12_spied_35 rfl rfl ?_
    refine r_aload_n (pc := 36) (i := 0) dX12_spied_36 rfl rfl ?_
    refine r_getfr (pc := 37) (b := 283) cks dX12_spied_37 fl_X12_37 rfl (kM274 hT) (ltM hT (by omega)) (rM11 hT) ?_
    refine r_iconst (pc := 40) dX12_spied_40 (in32_of rfl) ?_
    refine r_ild (pc := 41) (1) dX12_spied_41 (kM283 hT) (ltM hT (by omega)) (by omega) (by rw [lM283 hT]; omega) ?_
    refine r_top (b := N 1) (sr_at _ _ _ _) ?_
    refine r_top (b := ((n : Nat) : Int)) (hn) ?_
    refine r_icmp_ge (pc := 42) (tgt := 67) dX12_spied_42 rfl (fun c42 => ?_) (fun c42 => ?_)
    · refine r_iload_n (pc := 67) (i := 2) dX12_spied_67 rfl rfl ?_
      exact r_iret (pc := 68) dX12_spied_68 trivial (by rw [show spiA N n p = (((spM N k) : Nat) : Int) from by unfold spiA; rw [if_pos (by omega), show n = k by omega]] at hq; exact hq)
    · refine r_iload_n (pc := 45) (i := 2) dX12_spied_45 rfl rfl ?_
      refine r_aload_n (pc := 46) (i := 0) dX12_spied_46 rfl rfl ?_
      refine r_iload_n (pc := 47) (i := 3) dX12_spied_47 rfl rfl ?_
      refine r_callV1 (pc := 48) (d - 1) [aI ((k : Nat) : Int)] dX12_spied_48 (CV.mk2 mk_X12_isSpied lk_X12_298) (RC.of (ltM hT (by omega)) (kM274 hT) (by decide) rfl) rfl rfl (by omega) (Nat.le_of_ble_eq_true rfl) (Nat.le_of_ble_eq_true rfl) (c_isSpied hT (by omega) hF (by omega) (by omega) ?_)
      refine ⟨_, rfl, fun _ => ?_⟩
      refine r_if_eq (pc := 51) (tgt := 58) dX12_spied_51 rfl (fun c51 => ?_) (fun c51 => ?_)
      · refine r_iconst (pc := 58) dX12_spied_58 (in32_of rfl) ?_
        refine r_iaddN (pc := 59) (c := (((spM N k) : Nat) : Int)) dX12_spied_59 (by unfold w32; omega) ?_
        refine r_istore_n (pc := 60) (i := 2) (lv' := [_, _, _, _]) dX12_spied_60 rfl (by decide) rfl ?_
        refine r_iincN (pc := 61) (i := 3) (c := ((k + 1 : Nat) : Int)) (lv' := [_, _, _, _]) dX12_spied_61 rfl (by decide) (by unfold w32; omega) rfl ?_
        refine r_goto (pc := 64) (tgt := 35) dX12_spied_64 rfl ?_
        exact Ev.re (by rw [spM_succ]; first | rw [show (spI N k).toNat = 1 by have := spI_01 N k; omega] | (rw [show (spI N k).toNat = 0 by omega]; rfl)) rfl (ih (k + 1) (by omega) (by omega))
      · refine r_iconst (pc := 54) dX12_spied_54 (in32_of rfl) ?_
        refine r_goto (pc := 55) (tgt := 59) dX12_spied_55 rfl ?_
        refine r_iaddN (pc := 59) (c := (((spM N k) + 1 : Nat) : Int)) dX12_spied_59 (by unfold w32; omega) ?_
        refine r_istore_n (pc := 60) (i := 2) (lv' := [_, _, _, _]) dX12_spied_60 rfl (by decide) rfl ?_
        refine r_iincN (pc := 61) (i := 3) (c := ((k + 1 : Nat) : Int)) (lv' := [_, _, _, _]) dX12_spied_61 rfl (by decide) (by unfold w32; omega) rfl ?_
        refine r_goto (pc := 64) (tgt := 35) dX12_spied_64 rfl ?_
        exact Ev.re (by rw [spM_succ]; first | rw [show (spI N k).toNat = 1 by have := spI_01 N k; omega] | (rw [show (spI N k).toNat = 0 by omega]; rfl)) rfl (ih (k + 1) (by omega) (by omega))
  · refine r_aload_n (pc := 5) (i := 0) dX12_spied_5 rfl rfl ?_
    refine r_iload_n (pc := 6) (i := 1) dX12_spied_6 rfl rfl ?_
    refine r_callV1 (pc := 7) (d - 1) [aI p] dX12_spied_7 (CV.mk2 mk_X12_isPlace lk_X12_232) (RC.of (ltM hT (by omega)) (kM274 hT) (by decide) rfl) rfl rfl (by omega) (Nat.le_of_ble_eq_true rfl) (Nat.le_of_ble_eq_true rfl) (c_isPlace hT hn ?_)
    refine ⟨_, rfl, fun _ => ?_⟩
    refine r_if_eq (pc := 10) (tgt := 29) dX12_spied_10 rfl (fun c10 => ?_) (fun c10 => ?_)
    · have c10 := bi_if.mp c10
      refine r_iconst (pc := 29) dX12_spied_29 (in32_of rfl) ?_
      exact r_iret (pc := 30) dX12_spied_30 trivial (by rw [show spiA N n p = (-1) from by unfold spiA; rw [if_neg (by omega)]; first | rw [if_neg (by omega)] | (rw [if_pos (by omega)]; have := spI_01 N p; omega)] at hq; exact hq)
    · have c10 := bi_1 c10
      refine r_aload_n (pc := 13) (i := 0) dX12_spied_13 rfl rfl ?_
      refine r_iload_n (pc := 14) (i := 1) dX12_spied_14 rfl rfl ?_
      refine r_callV1 (pc := 15) (d - 1) [aI p] dX12_spied_15 (CV.mk2 mk_X12_isSpied lk_X12_298) (RC.of (ltM hT (by omega)) (kM274 hT) (by decide) rfl) rfl rfl (by omega) (Nat.le_of_ble_eq_true rfl) (Nat.le_of_ble_eq_true rfl) (c_isSpied hT (by omega) hF (by omega) (by omega) ?_)
      refine ⟨_, rfl, fun _ => ?_⟩
      refine r_if_eq (pc := 18) (tgt := 25) dX12_spied_18 rfl (fun c18 => ?_) (fun c18 => ?_)
      · refine r_iconst (pc := 25) dX12_spied_25 (in32_of rfl) ?_
        refine r_goto (pc := 26) (tgt := 30) dX12_spied_26 rfl ?_
        exact r_iret (pc := 30) dX12_spied_30 trivial (by rw [show spiA N n p = 0 from by unfold spiA; rw [if_neg (by omega)]; first | rw [if_neg (by omega)] | (rw [if_pos (by omega)]; have := spI_01 N p; omega)] at hq; exact hq)
      · refine r_iconst (pc := 21) dX12_spied_21 (in32_of rfl) ?_
        refine r_goto (pc := 22) (tgt := 30) dX12_spied_22 rfl ?_
        exact r_iret (pc := 30) dX12_spied_30 trivial (by rw [show spiA N n p = 1 from by unfold spiA; rw [if_neg (by omega)]; first | rw [if_neg (by omega)] | (rw [if_pos (by omega)]; have := spI_01 N p; omega)] at hq; exact hq)
theorem c_spiedSignals (hT : ShM T) (hd : 1 ≤ d) (hg0 : 0 ≤ I 280 0) (hg1 : I 280 0 ≤ 256) (hq : Q (some (aI (ssM N (sgM I N).toNat))) T (sr I 283 N)) : EvE G mX12_spiedSignals d [aR 274] T (sr I 283 N) Q := by
  have hg := sgM_rng (N := N) hg0 hg1
  refine EvE.mk (lv0 := [some (aR 274), none, none]) (Nat.le_of_ble_eq_true rfl) (by decide +kernel) rfl ?_
  refine r_iconst (pc := 0) dX12_spiedSignals_0 (in32_of rfl) ?_
  refine r_istore_n (pc := 1) (i := 1) (lv' := [_, _, _]) dX12_spiedSignals_1 rfl (by decide) rfl ?_
  refine r_iconst (pc := 2) dX12_spiedSignals_2 (in32_of rfl) ?_
  refine r_istore_n (pc := 3) (i := 2) (lv' := [_, _, _]) dX12_spiedSignals_3 rfl (by decide) rfl ?_
  refine loop1 (fun (k : Nat) => (k : Int) ≤ sgM I N) (fun (k : Nat) => (sgM I N).toNat - k) (fun (k : Nat) => [some (aR 274), some (aI (ssM N k)), some (aI ((k : Nat) : Int))]) (fun _ => T) (fun (k : Nat) => sr I 283 N) ?_ 0 hg.1
  intro k hP ih
  have hP : (k : Int) ≤ sgM I N := hP
  refine (?_ : Ev G mX12_spiedSignals d 4 [some (aR 274), some (aI (ssM N k)), some (aI ((k : Nat) : Int))] [] T (sr I 283 N) Q)
  refine r_iload_n (pc := 4) (i := 2) dX12_spiedSignals_4 rfl rfl ?_
  refine r_aload_n (pc := 5) (i := 0) dX12_spiedSignals_5 rfl rfl ?_
  refine r_callV1 (pc := 6) (d - 1) [] dX12_spiedSignals_6 (CV.mk2 mk_X12_signalMany lk_X12_240) (RC.of (ltM hT (by omega)) (kM274 hT) (by decide) rfl) rfl rfl (by omega) (Nat.le_of_ble_eq_true rfl) (Nat.le_of_ble_eq_true rfl) (c_signalMany hT ?_)
  refine ⟨_, rfl, fun _ => ?_⟩
  refine r_icmp_ge (pc := 9) (tgt := 27) dX12_spiedSignals_9 rfl (fun c9 => ?_) (fun c9 => ?_)
  · refine r_iload_n (pc := 27) (i := 1) dX12_spiedSignals_27 rfl rfl ?_
    exact r_iret (pc := 28) dX12_spiedSignals_28 trivial (by rw [show (sgM I N).toNat = k by omega] at hq; exact hq)
  · refine r_iload_n (pc := 12) (i := 1) dX12_spiedSignals_12 rfl rfl ?_
    refine r_aload_n (pc := 13) (i := 0) dX12_spiedSignals_13 rfl rfl ?_
    refine r_iload_n (pc := 14) (i := 2) dX12_spiedSignals_14 rfl rfl ?_
    refine r_iconst (pc := 15) dX12_spiedSignals_15 (in32_of rfl) ?_
    refine r_callV1 (pc := 16) (d - 1) [aI ((k : Nat) : Int), aI 4] dX12_spiedSignals_16 (CV.mk2 mk_X12_ofSignal lk_X12_138) (RC.of (ltM hT (by omega)) (kM274 hT) (by decide) rfl) rfl rfl (by omega) (Nat.le_of_ble_eq_true rfl) (Nat.le_of_ble_eq_true rfl) (c_ofSignal hT (by omega) (by omega) ?_)
    refine ⟨_, rfl, fun _ => ?_⟩
    refine r_iaddN (pc := 19) (c := (ssM N (k + 1))) dX12_spiedSignals_19 rfl ?_
    refine r_istore_n (pc := 20) (i := 1) (lv' := [_, _, _]) dX12_spiedSignals_20 rfl (by decide) rfl ?_
    refine r_iincN (pc := 21) (i := 2) (c := ((k + 1 : Nat) : Int)) (lv' := [_, _, _]) dX12_spiedSignals_21 rfl (by decide) (by unfold w32; omega) rfl ?_
    refine r_goto (pc := 24) (tgt := 4) dX12_spiedSignals_24 rfl ?_
    exact ih (k + 1) (by omega) (by omega)
def cntA (I : Mi) (N : Nat → Int) (n : Nat) (w : Int) : Int :=
  if w = 0 then N 0 else if w = 1 then (n : Int) else if w = 2 then ((unl N n : Nat) : Int) else if w = 3 then N 2 else if w = 4 then N 3 else if w = 5 then N 4 else if w = 6 then N 5 else if w = 7 then N 6 else if w = 8 then N 7 else if w = 9 then ssM N (sgM I N).toNat else if w = 10 then N 8 else if w = 11 then I 274 16 else if w = 12 then I 274 1 else if w = 13 then sgM I N else if w = 14 then N 9 else if w = 15 then N 10 else if w = 16 then N 11 else -1
theorem c_count {n : Nat} {w : Int} (hT : ShM T) (hd : 3 ≤ d) (hn : N 1 = (n : Int)) (hn2 : n ≤ 256) (hg0 : 0 ≤ I 280 0) (hg1 : I 280 0 ≤ 256) (hq : Q (some (aI (cntA I N n w))) T (sr I 283 N)) : EvE G mX12_count d [aR 274, aI w] T (sr I 283 N) Q := by
  refine EvE.mk (lv0 := [some (aR 274), some (aI w)]) (Nat.le_of_ble_eq_true rfl) (by decide +kernel) rfl ?_
  refine r_iload_n (pc := 0) (i := 1) dX12_count_0 rfl rfl ?_
  rcases (by omega : (w < 0 ∨ 16 < w) ∨ w = 0 ∨ w = 1 ∨ w = 2 ∨ w = 3 ∨ w = 4 ∨ w = 5 ∨ w = 6 ∨ w = 7 ∨ w = 8 ∨ w = 9 ∨ w = 10 ∨ w = 11 ∨ w = 12 ∨ w = 13 ∨ w = 14 ∨ w = 15 ∨ w = 16) with hw | rfl | rfl | rfl | rfl | rfl | rfl | rfl | rfl | rfl | rfl | rfl | rfl | rfl | rfl | rfl | rfl | rfl
  · refine r_tsw_out (pc := 1) (tgt := 199) dX12_count_1 hw rfl ?_
    refine r_iconst (pc := 199) dX12_count_199 (in32_of rfl) ?_
    exact r_iret (pc := 200) dX12_count_200 trivial (by rw [show cntA I N n w = (-1) from by unfold cntA; rw [if_neg (by omega)]; rw [if_neg (by omega)]; rw [if_neg (by omega)]; rw [if_neg (by omega)]; rw [if_neg (by omega)]; rw [if_neg (by omega)]; rw [if_neg (by omega)]; rw [if_neg (by omega)]; rw [if_neg (by omega)]; rw [if_neg (by omega)]; rw [if_neg (by omega)]; rw [if_neg (by omega)]; rw [if_neg (by omega)]; rw [if_neg (by omega)]; rw [if_neg (by omega)]; rw [if_neg (by omega)]; rw [if_neg (by omega)]] at hq; exact hq)
  · refine r_tsw_in (pc := 1) (tgt := 84) dX12_count_1 (by decide) (by decide) rfl rfl ?_
    refine r_aload_n (pc := 84) (i := 0) dX12_count_84 rfl rfl ?_
    refine r_getfr (pc := 85) (b := 283) cks dX12_count_85 fl_X12_37 rfl (kM274 hT) (ltM hT (by omega)) (rM11 hT) ?_
    refine r_iconst (pc := 88) dX12_count_88 (in32_of rfl) ?_
    refine r_ild (pc := 89) (0) dX12_count_89 (kM283 hT) (ltM hT (by omega)) (by omega) (by rw [lM283 hT]; omega) ?_
    refine r_top (b := N 0) (sr_at _ _ _ _) ?_
    exact r_iret (pc := 90) dX12_count_90 trivial (by rw [show cntA I N n 0 = (N 0) from rfl] at hq; exact hq)
  · refine r_tsw_in (pc := 1) (tgt := 91) dX12_count_1 (by decide) (by decide) rfl rfl ?_
    refine r_aload_n (pc := 91) (i := 0) dX12_count_91 rfl rfl ?_
    refine r_getfr (pc := 92) (b := 283) cks dX12_count_92 fl_X12_37 rfl (kM274 hT) (ltM hT (by omega)) (rM11 hT) ?_
    refine r_iconst (pc := 95) dX12_count_95 (in32_of rfl) ?_
    refine r_ild (pc := 96) (1) dX12_count_96 (kM283 hT) (ltM hT (by omega)) (by omega) (by rw [lM283 hT]; omega) ?_
    refine r_top (b := N 1) (sr_at _ _ _ _) ?_
    refine r_top (b := ((n : Nat) : Int)) (hn) ?_
    exact r_iret (pc := 97) dX12_count_97 trivial (by rw [show cntA I N n 1 = ((n : Nat) : Int) from rfl] at hq; exact hq)
  · refine r_tsw_in (pc := 1) (tgt := 98) dX12_count_1 (by decide) (by decide) rfl rfl ?_
    refine r_aload_n (pc := 98) (i := 0) dX12_count_98 rfl rfl ?_
    refine r_callV1 (pc := 99) (d - 1) [] dX12_count_99 (CV.mk2 mk_X12_unlikeMany lk_X12_237) (RC.of (ltM hT (by omega)) (kM274 hT) (by decide) rfl) rfl rfl (by omega) (Nat.le_of_ble_eq_true rfl) (Nat.le_of_ble_eq_true rfl) (c_unlikeMany hT hn hn2 ?_)
    refine ⟨_, rfl, fun _ => ?_⟩
    exact r_iret (pc := 102) dX12_count_102 trivial (by rw [show cntA I N n 2 = (((unl N n) : Nat) : Int) from rfl] at hq; exact hq)
  · refine r_tsw_in (pc := 1) (tgt := 103) dX12_count_1 (by decide) (by decide) rfl rfl ?_
    refine r_aload_n (pc := 103) (i := 0) dX12_count_103 rfl rfl ?_
    refine r_getfr (pc := 104) (b := 283) cks dX12_count_104 fl_X12_37 rfl (kM274 hT) (ltM hT (by omega)) (rM11 hT) ?_
    refine r_iconst (pc := 107) dX12_count_107 (in32_of rfl) ?_
    refine r_ild (pc := 108) (2) dX12_count_108 (kM283 hT) (ltM hT (by omega)) (by omega) (by rw [lM283 hT]; omega) ?_
    refine r_top (b := N 2) (sr_at _ _ _ _) ?_
    exact r_iret (pc := 109) dX12_count_109 trivial (by rw [show cntA I N n 3 = (N 2) from rfl] at hq; exact hq)
  · refine r_tsw_in (pc := 1) (tgt := 110) dX12_count_1 (by decide) (by decide) rfl rfl ?_
    refine r_aload_n (pc := 110) (i := 0) dX12_count_110 rfl rfl ?_
    refine r_getfr (pc := 111) (b := 283) cks dX12_count_111 fl_X12_37 rfl (kM274 hT) (ltM hT (by omega)) (rM11 hT) ?_
    refine r_iconst (pc := 114) dX12_count_114 (in32_of rfl) ?_
    refine r_ild (pc := 115) (3) dX12_count_115 (kM283 hT) (ltM hT (by omega)) (by omega) (by rw [lM283 hT]; omega) ?_
    refine r_top (b := N 3) (sr_at _ _ _ _) ?_
    exact r_iret (pc := 116) dX12_count_116 trivial (by rw [show cntA I N n 4 = (N 3) from rfl] at hq; exact hq)
  · refine r_tsw_in (pc := 1) (tgt := 117) dX12_count_1 (by decide) (by decide) rfl rfl ?_
    refine r_aload_n (pc := 117) (i := 0) dX12_count_117 rfl rfl ?_
    refine r_getfr (pc := 118) (b := 283) cks dX12_count_118 fl_X12_37 rfl (kM274 hT) (ltM hT (by omega)) (rM11 hT) ?_
    refine r_iconst (pc := 121) dX12_count_121 (in32_of rfl) ?_
    refine r_ild (pc := 122) (4) dX12_count_122 (kM283 hT) (ltM hT (by omega)) (by omega) (by rw [lM283 hT]; omega) ?_
    refine r_top (b := N 4) (sr_at _ _ _ _) ?_
    exact r_iret (pc := 123) dX12_count_123 trivial (by rw [show cntA I N n 5 = (N 4) from rfl] at hq; exact hq)
  · refine r_tsw_in (pc := 1) (tgt := 124) dX12_count_1 (by decide) (by decide) rfl rfl ?_
    refine r_aload_n (pc := 124) (i := 0) dX12_count_124 rfl rfl ?_
    refine r_getfr (pc := 125) (b := 283) cks dX12_count_125 fl_X12_37 rfl (kM274 hT) (ltM hT (by omega)) (rM11 hT) ?_
    refine r_iconst (pc := 128) dX12_count_128 (in32_of rfl) ?_
    refine r_ild (pc := 129) (5) dX12_count_129 (kM283 hT) (ltM hT (by omega)) (by omega) (by rw [lM283 hT]; omega) ?_
    refine r_top (b := N 5) (sr_at _ _ _ _) ?_
    exact r_iret (pc := 130) dX12_count_130 trivial (by rw [show cntA I N n 6 = (N 5) from rfl] at hq; exact hq)
  · refine r_tsw_in (pc := 1) (tgt := 131) dX12_count_1 (by decide) (by decide) rfl rfl ?_
    refine r_aload_n (pc := 131) (i := 0) dX12_count_131 rfl rfl ?_
    refine r_getfr (pc := 132) (b := 283) cks dX12_count_132 fl_X12_37 rfl (kM274 hT) (ltM hT (by omega)) (rM11 hT) ?_
    refine r_bipush (pc := 135) dX12_count_135 rfl (in32_of rfl) ?_
    refine r_ild (pc := 137) (6) dX12_count_137 (kM283 hT) (ltM hT (by omega)) (by omega) (by rw [lM283 hT]; omega) ?_
    refine r_top (b := N 6) (sr_at _ _ _ _) ?_
    exact r_iret (pc := 138) dX12_count_138 trivial (by rw [show cntA I N n 7 = (N 6) from rfl] at hq; exact hq)
  · refine r_tsw_in (pc := 1) (tgt := 139) dX12_count_1 (by decide) (by decide) rfl rfl ?_
    refine r_aload_n (pc := 139) (i := 0) dX12_count_139 rfl rfl ?_
    refine r_getfr (pc := 140) (b := 283) cks dX12_count_140 fl_X12_37 rfl (kM274 hT) (ltM hT (by omega)) (rM11 hT) ?_
    refine r_bipush (pc := 143) dX12_count_143 rfl (in32_of rfl) ?_
    refine r_ild (pc := 145) (7) dX12_count_145 (kM283 hT) (ltM hT (by omega)) (by omega) (by rw [lM283 hT]; omega) ?_
    refine r_top (b := N 7) (sr_at _ _ _ _) ?_
    exact r_iret (pc := 146) dX12_count_146 trivial (by rw [show cntA I N n 8 = (N 7) from rfl] at hq; exact hq)
  · refine r_tsw_in (pc := 1) (tgt := 147) dX12_count_1 (by decide) (by decide) rfl rfl ?_
    refine r_aload_n (pc := 147) (i := 0) dX12_count_147 rfl rfl ?_
    refine r_callV1 (pc := 148) (d - 1) [] dX12_count_148 (CV.mk2 mk_X12_spiedSignals lk_X12_325) (RC.of (ltM hT (by omega)) (kM274 hT) (by decide) rfl) rfl rfl (by omega) (Nat.le_of_ble_eq_true rfl) (Nat.le_of_ble_eq_true rfl) (c_spiedSignals hT (by omega) hg0 hg1 ?_)
    refine ⟨_, rfl, fun _ => ?_⟩
    exact r_iret (pc := 151) dX12_count_151 trivial (by rw [show cntA I N n 9 = (ssM N (sgM I N).toNat) from rfl] at hq; exact hq)
  · refine r_tsw_in (pc := 1) (tgt := 152) dX12_count_1 (by decide) (by decide) rfl rfl ?_
    refine r_aload_n (pc := 152) (i := 0) dX12_count_152 rfl rfl ?_
    refine r_getfr (pc := 153) (b := 283) cks dX12_count_153 fl_X12_37 rfl (kM274 hT) (ltM hT (by omega)) (rM11 hT) ?_
    refine r_bipush (pc := 156) dX12_count_156 rfl (in32_of rfl) ?_
    refine r_ild (pc := 158) (8) dX12_count_158 (kM283 hT) (ltM hT (by omega)) (by omega) (by rw [lM283 hT]; omega) ?_
    refine r_top (b := N 8) (sr_at _ _ _ _) ?_
    exact r_iret (pc := 159) dX12_count_159 trivial (by rw [show cntA I N n 10 = (N 8) from rfl] at hq; exact hq)
  · refine r_tsw_in (pc := 1) (tgt := 160) dX12_count_1 (by decide) (by decide) rfl rfl ?_
    refine r_aload_n (pc := 160) (i := 0) dX12_count_160 rfl rfl ?_
    refine r_getfi (pc := 161) cks dX12_count_161 fl_X12_118 rfl (kM274 hT) (ltM hT (by omega)) ?_
    refine r_top (b := I 274 16) ((congrFun (sr_ne (by decide)) _).trans (rfl)) ?_
    exact r_iret (pc := 164) dX12_count_164 trivial (by rw [show cntA I N n 11 = (I 274 16) from rfl] at hq; exact hq)
  · refine r_tsw_in (pc := 1) (tgt := 165) dX12_count_1 (by decide) (by decide) rfl rfl ?_
    refine r_aload_n (pc := 165) (i := 0) dX12_count_165 rfl rfl ?_
    refine r_getfi (pc := 166) cks dX12_count_166 fl_X12_73 rfl (kM274 hT) (ltM hT (by omega)) ?_
    refine r_top (b := I 274 1) ((congrFun (sr_ne (by decide)) _).trans (rfl)) ?_
    exact r_iret (pc := 169) dX12_count_169 trivial (by rw [show cntA I N n 12 = (I 274 1) from rfl] at hq; exact hq)
  · refine r_tsw_in (pc := 1) (tgt := 170) dX12_count_1 (by decide) (by decide) rfl rfl ?_
    refine r_aload_n (pc := 170) (i := 0) dX12_count_170 rfl rfl ?_
    refine r_callV1 (pc := 171) (d - 1) [] dX12_count_171 (CV.mk2 mk_X12_signalMany lk_X12_240) (RC.of (ltM hT (by omega)) (kM274 hT) (by decide) rfl) rfl rfl (by omega) (Nat.le_of_ble_eq_true rfl) (Nat.le_of_ble_eq_true rfl) (c_signalMany hT ?_)
    refine ⟨_, rfl, fun _ => ?_⟩
    exact r_iret (pc := 174) dX12_count_174 trivial (by rw [show cntA I N n 13 = (sgM I N) from rfl] at hq; exact hq)
  · refine r_tsw_in (pc := 1) (tgt := 175) dX12_count_1 (by decide) (by decide) rfl rfl ?_
    refine r_aload_n (pc := 175) (i := 0) dX12_count_175 rfl rfl ?_
    refine r_getfr (pc := 176) (b := 283) cks dX12_count_176 fl_X12_37 rfl (kM274 hT) (ltM hT (by omega)) (rM11 hT) ?_
    refine r_bipush (pc := 179) dX12_count_179 rfl (in32_of rfl) ?_
    refine r_ild (pc := 181) (9) dX12_count_181 (kM283 hT) (ltM hT (by omega)) (by omega) (by rw [lM283 hT]; omega) ?_
    refine r_top (b := N 9) (sr_at _ _ _ _) ?_
    exact r_iret (pc := 182) dX12_count_182 trivial (by rw [show cntA I N n 14 = (N 9) from rfl] at hq; exact hq)
  · refine r_tsw_in (pc := 1) (tgt := 183) dX12_count_1 (by decide) (by decide) rfl rfl ?_
    refine r_aload_n (pc := 183) (i := 0) dX12_count_183 rfl rfl ?_
    refine r_getfr (pc := 184) (b := 283) cks dX12_count_184 fl_X12_37 rfl (kM274 hT) (ltM hT (by omega)) (rM11 hT) ?_
    refine r_bipush (pc := 187) dX12_count_187 rfl (in32_of rfl) ?_
    refine r_ild (pc := 189) (10) dX12_count_189 (kM283 hT) (ltM hT (by omega)) (by omega) (by rw [lM283 hT]; omega) ?_
    refine r_top (b := N 10) (sr_at _ _ _ _) ?_
    exact r_iret (pc := 190) dX12_count_190 trivial (by rw [show cntA I N n 15 = (N 10) from rfl] at hq; exact hq)
  · refine r_tsw_in (pc := 1) (tgt := 191) dX12_count_1 (by decide) (by decide) rfl rfl ?_
    refine r_aload_n (pc := 191) (i := 0) dX12_count_191 rfl rfl ?_
    refine r_getfr (pc := 192) (b := 283) cks dX12_count_192 fl_X12_37 rfl (kM274 hT) (ltM hT (by omega)) (rM11 hT) ?_
    refine r_bipush (pc := 195) dX12_count_195 rfl (in32_of rfl) ?_
    refine r_ild (pc := 197) (11) dX12_count_197 (kM283 hT) (ltM hT (by omega)) (by omega) (by rw [lM283 hT]; omega) ?_
    refine r_top (b := N 11) (sr_at _ _ _ _) ?_
    exact r_iret (pc := 198) dX12_count_198 trivial (by rw [show cntA I N n 16 = (N 11) from rfl] at hq; exact hq)
def rtS (q : Int) : Nat → Nat → Nat
  | 0, r => r
  | u + 1, r => if ((r + 1) * (r + 1) : Nat) ≤ q then rtS q u (r + 1) else r
theorem rtS_succ (q : Int) (u r : Nat) : rtS q (u + 1) r = if ((r + 1) * (r + 1) : Nat) ≤ q then rtS q u (r + 1) else r := rfl
def rtA (q : Int) : Nat := rtS q 700 0
def lakS (N : Nat → Int) : Nat → Nat → Int
  | 0, _ => 1
  | u + 1, k => if N (k + 3390) = N (k + 3646) then lakS N u (k + 1) else 0
theorem lakS_succ (N : Nat → Int) (u k : Nat) : lakS N (u + 1) k = if N (k + 3390) = N (k + 3646) then lakS N u (k + 1) else 0 := rfl
theorem c_root {q : Int}  (hq0 : q ≤ 600) (hq : Q (some (aI ((rtA q : Nat) : Int))) T I) : EvE G mX12_root d [aI q] T I Q := by
  refine EvE.mk (lv0 := [some (aI q), none]) (Nat.le_of_ble_eq_true rfl) (by decide +kernel) rfl ?_
  refine r_iconst (pc := 0) dX12_root_0 (in32_of rfl) ?_
  refine r_istore_n (pc := 1) (i := 1) (lv' := [_, _]) dX12_root_1 rfl (by decide) rfl ?_
  refine loop1 (fun (r : Nat) => r ≤ 600 ∧ rtA q = rtS q (700 - r) r) (fun (r : Nat) => 700 - r) (fun (r : Nat) => [some (aI q), some (aI ((r : Nat) : Int))]) (fun _ => T) (fun (r : Nat) => I) ?_ 0 ⟨by omega, rfl⟩
  intro r hP ih
  have hP : r ≤ 600 ∧ rtA q = rtS q (700 - r) r := hP
  have hm : (r + 1) * (r + 1) ≤ 601 * 601 := Nat.mul_le_mul (by omega) (by omega)
  refine (?_ : Ev G mX12_root d 2 [some (aI q), some (aI ((r : Nat) : Int))] [] T I Q)
  refine r_iload_n (pc := 2) (i := 1) dX12_root_2 rfl rfl ?_
  refine r_iconst (pc := 3) dX12_root_3 (in32_of rfl) ?_
  refine r_iaddN (pc := 4) (c := ((r + 1 : Nat) : Int)) dX12_root_4 (by unfold w32; omega) ?_
  refine r_iload_n (pc := 5) (i := 1) dX12_root_5 rfl rfl ?_
  refine r_iconst (pc := 6) dX12_root_6 (in32_of rfl) ?_
  refine r_iaddN (pc := 7) (c := ((r + 1 : Nat) : Int)) dX12_root_7 (by unfold w32; omega) ?_
  refine r_imulN (pc := 8) (c := ((((r + 1) * (r + 1)) : Nat) : Int)) dX12_root_8 (by unfold w32; omega) ?_
  refine r_iload_n (pc := 9) (i := 0) dX12_root_9 rfl rfl ?_
  refine r_icmp_gt (pc := 10) (tgt := 19) dX12_root_10 rfl (fun c10 => ?_) (fun c10 => ?_)
  · refine r_iload_n (pc := 19) (i := 1) dX12_root_19 rfl rfl ?_
    exact r_iret (pc := 20) dX12_root_20 trivial (by rw [hP.2, show 700 - r = (700 - (r + 1)) + 1 by omega, rtS_succ, if_neg (by omega)] at hq; exact hq)
  · refine r_iincN (pc := 13) (i := 1) (c := ((r + 1 : Nat) : Int)) (lv' := [_, _]) dX12_root_13 rfl (by decide) (by unfold w32; omega) rfl ?_
    refine r_goto (pc := 16) (tgt := 2) dX12_root_16 rfl ?_
    exact ih (r + 1) ⟨by have : r + 1 ≤ (r + 1) * (r + 1) := Nat.le_mul_of_pos_left _ (by omega); omega, by rw [hP.2, show 700 - r = (700 - (r + 1)) + 1 by omega, rtS_succ, if_pos (by omega)]⟩ (by omega)
theorem c_areLastAlike {L : Nat} (hT : ShM T) (hL : N 6 = (L : Int)) (hL2 : L ≤ 256) (hq : Q (some (aI (lakS N L 0))) T (sr I 283 N)) : EvE G mX12_areLastAlike d [aR 274] T (sr I 283 N) Q := by
  refine EvE.mk (lv0 := [some (aR 274), none]) (Nat.le_of_ble_eq_true rfl) (by decide +kernel) rfl ?_
  refine r_iconst (pc := 0) dX12_areLastAlike_0 (in32_of rfl) ?_
  refine r_istore_n (pc := 1) (i := 1) (lv' := [_, _]) dX12_areLastAlike_1 rfl (by decide) rfl ?_
  refine loop1 (fun (k : Nat) => k ≤ L ∧ lakS N L 0 = lakS N (L - k) k) (fun (k : Nat) => L - k) (fun (k : Nat) => [some (aR 274), some (aI ((k : Nat) : Int))]) (fun _ => T) (fun (k : Nat) => sr I 283 N) ?_ 0 ⟨Nat.zero_le _, rfl⟩
  intro k hP ih
  have hP : k ≤ L ∧ lakS N L 0 = lakS N (L - k) k := hP
  refine (?_ : Ev G mX12_areLastAlike d 2 [some (aR 274), some (aI ((k : Nat) : Int))] [] T (sr I 283 N) Q)
  refine r_iload_n (pc := 2) (i := 1) dX12_areLastAlike_2 rfl rfl ?_
  refine r_aload_n (pc := 3) (i := 0) dX12_areLastAlike_3 rfl rfl ?_
  refine r_getfr (pc := 4) (b := 283) cks dX12_areLastAlike_4 fl_X12_37 rfl (kM274 hT) (ltM hT (by omega)) (rM11 hT) ?_
  refine r_bipush (pc := 7) dX12_areLastAlike_7 rfl (in32_of rfl) ?_
  refine r_ild (pc := 9) (6) dX12_areLastAlike_9 (kM283 hT) (ltM hT (by omega)) (by omega) (by rw [lM283 hT]; omega) ?_
  refine r_top (b := N 6) (sr_at _ _ _ _) ?_
  refine r_top (b := ((L : Nat) : Int)) (hL) ?_
  refine r_icmp_ge (pc := 10) (tgt := 44) dX12_areLastAlike_10 rfl (fun c10 => ?_) (fun c10 => ?_)
  · refine r_iconst (pc := 44) dX12_areLastAlike_44 (in32_of rfl) ?_
    exact r_iret (pc := 45) dX12_areLastAlike_45 (Or.inr rfl) (by rw [hP.2, show L - k = 0 by omega, show lakS N 0 k = 1 from rfl] at hq; exact hq)
  · refine r_aload_n (pc := 13) (i := 0) dX12_areLastAlike_13 rfl rfl ?_
    refine r_getfr (pc := 14) (b := 283) cks dX12_areLastAlike_14 fl_X12_37 rfl (kM274 hT) (ltM hT (by omega)) (rM11 hT) ?_
    refine r_sipush (pc := 17) dX12_areLastAlike_17 rfl (in32_of rfl) ?_
    refine r_iload_n (pc := 20) (i := 1) dX12_areLastAlike_20 rfl rfl ?_
    refine r_iaddN (pc := 21) (c := ((k + 3390 : Nat) : Int)) dX12_areLastAlike_21 (by unfold w32; omega) ?_
    refine r_ild (pc := 22) (k + 3390) dX12_areLastAlike_22 (kM283 hT) (ltM hT (by omega)) rfl (by rw [lM283 hT]; omega) ?_
    refine r_top (b := N (k + 3390)) (sr_at _ _ _ _) ?_
    refine r_aload_n (pc := 23) (i := 0) dX12_areLastAlike_23 rfl rfl ?_
    refine r_getfr (pc := 24) (b := 283) cks dX12_areLastAlike_24 fl_X12_37 rfl (kM274 hT) (ltM hT (by omega)) (rM11 hT) ?_
    refine r_sipush (pc := 27) dX12_areLastAlike_27 rfl (in32_of rfl) ?_
    refine r_iload_n (pc := 30) (i := 1) dX12_areLastAlike_30 rfl rfl ?_
    refine r_iaddN (pc := 31) (c := ((k + 3646 : Nat) : Int)) dX12_areLastAlike_31 (by unfold w32; omega) ?_
    refine r_ild (pc := 32) (k + 3646) dX12_areLastAlike_32 (kM283 hT) (ltM hT (by omega)) rfl (by rw [lM283 hT]; omega) ?_
    refine r_top (b := N (k + 3646)) (sr_at _ _ _ _) ?_
    refine r_icmp_eq (pc := 33) (tgt := 38) dX12_areLastAlike_33 rfl (fun c33 => ?_) (fun c33 => ?_)
    · refine r_iincN (pc := 38) (i := 1) (c := ((k + 1 : Nat) : Int)) (lv' := [_, _]) dX12_areLastAlike_38 rfl (by decide) (by unfold w32; omega) rfl ?_
      refine r_goto (pc := 41) (tgt := 2) dX12_areLastAlike_41 rfl ?_
      exact ih (k + 1) ⟨by omega, by rw [hP.2, show L - k = (L - (k + 1)) + 1 by omega, lakS_succ, if_pos c33]⟩ (by omega)
    · refine r_iconst (pc := 36) dX12_areLastAlike_36 (in32_of rfl) ?_
      exact r_iret (pc := 37) dX12_areLastAlike_37 (Or.inl rfl) (by rw [hP.2, show L - k = (L - (k + 1)) + 1 by omega, lakS_succ, if_neg c33] at hq; exact hq)
def byN (N : Nat → Int) (y u : Nat) : Nat → Int
  | 0 => 0
  | k + 1 => iro (isl (byN N y u k) 1) (N (y + u + k))
theorem byN_succ (N : Nat → Int) (y u k : Nat) : byN N y u (k + 1) = iro (isl (byN N y u k) 1) (N (y + u + k)) := rfl
def inE (k : Nat) (j : Int) : Prop := j = 0 ∨ ian (isr k (j - 1)) 1 = 1
def p8 (N : Nat → Int) (y e : Nat) (j : Int) : Nat → Int
  | 0 => 0
  | k + 1 => ixo (p8 N y e j k) (if j = 0 then N (y + 8 * e + k) else if ian (isr k (j - 1)) 1 = 1 then N (y + 8 * e + k) else 0)
theorem p8_succ (N : Nat → Int) (y e : Nat) (j : Int) (k : Nat) : p8 N y e j (k + 1) = ixo (p8 N y e j k) (if j = 0 then N (y + 8 * e + k) else if ian (isr k (j - 1)) 1 = 1 then N (y + 8 * e + k) else 0) := rfl
theorem c_byteOf {y u : Nat} (hT : ShM T) (hu : N 9 = (u : Int)) (hu2 : y + u ≤ 10000) (hq : Q (some (aI (byN N y u 8))) T (sr I 283 N)) : EvE G mX12_byteOf d [aR 274, aI ((y : Nat) : Int)] T (sr I 283 N) Q := by
  refine EvE.mk (lv0 := [some (aR 274), some (aI ((y : Nat) : Int)), none, none]) (Nat.le_of_ble_eq_true rfl) (by decide +kernel) rfl ?_
  refine r_iconst (pc := 0) dX12_byteOf_0 (in32_of rfl) ?_
  refine r_istore_n (pc := 1) (i := 2) (lv' := [_, _, _, _]) dX12_byteOf_1 rfl (by decide) rfl ?_
  refine r_iconst (pc := 2) dX12_byteOf_2 (in32_of rfl) ?_
  refine r_istore_n (pc := 3) (i := 3) (lv' := [_, _, _, _]) dX12_byteOf_3 rfl (by decide) rfl ?_
  refine loop1 (fun (k : Nat) => k ≤ 8) (fun (k : Nat) => 8 - k) (fun (k : Nat) => [some (aR 274), some (aI ((y : Nat) : Int)), some (aI (byN N y u k)), some (aI ((k : Nat) : Int))]) (fun _ => T) (fun (k : Nat) => sr I 283 N) ?_ 0 (Nat.zero_le _)
  intro k hP ih
  have hP : k ≤ 8 := hP
  refine (?_ : Ev G mX12_byteOf d 4 [some (aR 274), some (aI ((y : Nat) : Int)), some (aI (byN N y u k)), some (aI ((k : Nat) : Int))] [] T (sr I 283 N) Q)
  refine r_iload_n (pc := 4) (i := 3) dX12_byteOf_4 rfl rfl ?_
  refine r_bipush (pc := 5) dX12_byteOf_5 rfl (in32_of rfl) ?_
  refine r_icmp_ge (pc := 7) (tgt := 37) dX12_byteOf_7 rfl (fun c7 => ?_) (fun c7 => ?_)
  · refine r_iload_n (pc := 37) (i := 2) dX12_byteOf_37 rfl rfl ?_
    exact r_iret (pc := 38) dX12_byteOf_38 trivial (by rw [show 8 = k by omega] at hq; exact hq)
  · refine r_iload_n (pc := 10) (i := 2) dX12_byteOf_10 rfl rfl ?_
    refine r_iconst (pc := 11) dX12_byteOf_11 (in32_of rfl) ?_
    refine r_ishl (pc := 12) dX12_byteOf_12 ?_
    refine r_aload_n (pc := 13) (i := 0) dX12_byteOf_13 rfl rfl ?_
    refine r_getfr (pc := 14) (b := 283) cks dX12_byteOf_14 fl_X12_37 rfl (kM274 hT) (ltM hT (by omega)) (rM11 hT) ?_
    refine r_iload_n (pc := 17) (i := 1) dX12_byteOf_17 rfl rfl ?_
    refine r_aload_n (pc := 18) (i := 0) dX12_byteOf_18 rfl rfl ?_
    refine r_getfr (pc := 19) (b := 283) cks dX12_byteOf_19 fl_X12_37 rfl (kM274 hT) (ltM hT (by omega)) (rM11 hT) ?_
    refine r_bipush (pc := 22) dX12_byteOf_22 rfl (in32_of rfl) ?_
    refine r_ild (pc := 24) (9) dX12_byteOf_24 (kM283 hT) (ltM hT (by omega)) (by omega) (by rw [lM283 hT]; omega) ?_
    refine r_top (b := N 9) (sr_at _ _ _ _) ?_
    refine r_top (b := ((u : Nat) : Int)) (hu) ?_
    refine r_iaddN (pc := 25) (c := ((y + u : Nat) : Int)) dX12_byteOf_25 (by unfold w32; omega) ?_
    refine r_iload_n (pc := 26) (i := 3) dX12_byteOf_26 rfl rfl ?_
    refine r_iaddN (pc := 27) (c := ((y + u + k : Nat) : Int)) dX12_byteOf_27 (by unfold w32; omega) ?_
    refine r_ild (pc := 28) (y + u + k) dX12_byteOf_28 (kM283 hT) (ltM hT (by omega)) rfl (by rw [lM283 hT]; omega) ?_
    refine r_top (b := N (y + u + k)) (sr_at _ _ _ _) ?_
    refine r_ior (pc := 29) dX12_byteOf_29 ?_
    refine r_istore_n (pc := 30) (i := 2) (lv' := [_, _, _, _]) dX12_byteOf_30 rfl (by decide) rfl ?_
    refine r_iincN (pc := 31) (i := 3) (c := ((k + 1 : Nat) : Int)) (lv' := [_, _, _, _]) dX12_byteOf_31 rfl (by decide) (by unfold w32; omega) rfl ?_
    refine r_goto (pc := 34) (tgt := 4) dX12_byteOf_34 rfl ?_
    exact Ev.re (by rw [byN_succ]) rfl (ih (k + 1) (by omega) (by omega))
theorem c_parityOfEight {y e : Nat} {j : Int} (hT : ShM T) (hy : y ≤ 600) (he : e ≤ 40) (hj0 : 0 ≤ j) (hj3 : j ≤ 3) (hq : Q (some (aI (p8 N y e j 8))) T (sr I 283 N)) : EvE G mX12_parityOfEight d [aR 274, aI ((y : Nat) : Int), aI ((e : Nat) : Int), aI j] T (sr I 283 N) Q := by
  refine EvE.mk (lv0 := [some (aR 274), some (aI ((y : Nat) : Int)), some (aI ((e : Nat) : Int)), some (aI j), none, none]) (Nat.le_of_ble_eq_true rfl) (by decide +kernel) rfl ?_
  refine r_iconst (pc := 0) dX12_parityOfEight_0 (in32_of rfl) ?_
  refine r_istore (pc := 1) (i := 4) (lv' := [_, _, _, _, _, _]) dX12_parityOfEight_1 (by decide) rfl ?_
  refine r_iconst (pc := 3) dX12_parityOfEight_3 (in32_of rfl) ?_
  refine r_istore (pc := 4) (i := 5) (lv' := [_, _, _, _, _, _]) dX12_parityOfEight_4 (by decide) rfl ?_
  refine loop1 (fun (k : Nat) => k ≤ 8) (fun (k : Nat) => 8 - k) (fun (k : Nat) => [some (aR 274), some (aI ((y : Nat) : Int)), some (aI ((e : Nat) : Int)), some (aI j), some (aI (p8 N y e j k)), some (aI ((k : Nat) : Int))]) (fun _ => T) (fun (k : Nat) => sr I 283 N) ?_ 0 (Nat.zero_le _)
  intro k hP ih
  have hP : k ≤ 8 := hP
  refine (?_ : Ev G mX12_parityOfEight d 6 [some (aR 274), some (aI ((y : Nat) : Int)), some (aI ((e : Nat) : Int)), some (aI j), some (aI (p8 N y e j k)), some (aI ((k : Nat) : Int))] [] T (sr I 283 N) Q)
  refine r_iload (pc := 6) (i := 5) dX12_parityOfEight_6 rfl ?_
  refine r_bipush (pc := 8) dX12_parityOfEight_8 rfl (in32_of rfl) ?_
  refine r_icmp_ge (pc := 10) (tgt := 58) dX12_parityOfEight_10 rfl (fun c10 => ?_) (fun c10 => ?_)
  · refine r_iload (pc := 58) (i := 4) dX12_parityOfEight_58 rfl ?_
    exact r_iret (pc := 60) dX12_parityOfEight_60 trivial (by rw [show 8 = k by omega] at hq; exact hq)
  · refine r_iload (pc := 13) (i := 4) dX12_parityOfEight_13 rfl ?_
    refine r_iload_n (pc := 15) (i := 3) dX12_parityOfEight_15 rfl rfl ?_
    refine r_if_eq (pc := 16) (tgt := 31) dX12_parityOfEight_16 rfl (fun c16 => ?_) (fun c16 => ?_)
    · refine r_aload_n (pc := 31) (i := 0) dX12_parityOfEight_31 rfl rfl ?_
      refine r_getfr (pc := 32) (b := 283) cks dX12_parityOfEight_32 fl_X12_37 rfl (kM274 hT) (ltM hT (by omega)) (rM11 hT) ?_
      refine r_iload_n (pc := 35) (i := 1) dX12_parityOfEight_35 rfl rfl ?_
      refine r_bipush (pc := 36) dX12_parityOfEight_36 rfl (in32_of rfl) ?_
      refine r_iload_n (pc := 38) (i := 2) dX12_parityOfEight_38 rfl rfl ?_
      refine r_imulN (pc := 39) (c := ((8 * e : Nat) : Int)) dX12_parityOfEight_39 (by unfold w32; omega) ?_
      refine r_iaddN (pc := 40) (c := ((y + 8 * e : Nat) : Int)) dX12_parityOfEight_40 (by unfold w32; omega) ?_
      refine r_iload (pc := 41) (i := 5) dX12_parityOfEight_41 rfl ?_
      refine r_iaddN (pc := 43) (c := ((y + 8 * e + k : Nat) : Int)) dX12_parityOfEight_43 (by unfold w32; omega) ?_
      refine r_ild (pc := 44) (y + 8 * e + k) dX12_parityOfEight_44 (kM283 hT) (ltM hT (by omega)) rfl (by rw [lM283 hT]; omega) ?_
      refine r_top (b := N (y + 8 * e + k)) (sr_at _ _ _ _) ?_
      refine r_goto (pc := 45) (tgt := 49) dX12_parityOfEight_45 rfl ?_
      refine r_ixor (pc := 49) dX12_parityOfEight_49 ?_
      refine r_istore (pc := 50) (i := 4) (lv' := [_, _, _, _, _, _]) dX12_parityOfEight_50 (by decide) rfl ?_
      refine r_iincN (pc := 52) (i := 5) (c := ((k + 1 : Nat) : Int)) (lv' := [_, _, _, _, _, _]) dX12_parityOfEight_52 rfl (by decide) (by unfold w32; omega) rfl ?_
      refine r_goto (pc := 55) (tgt := 6) dX12_parityOfEight_55 rfl ?_
      exact Ev.re (by rw [p8_succ]; first | rw [if_pos c16] | rw [if_neg c16, if_pos c28] | rw [if_neg c16, if_neg c28]) rfl (ih (k + 1) (by omega) (by omega))
    · refine r_iload (pc := 19) (i := 5) dX12_parityOfEight_19 rfl ?_
      refine r_iload_n (pc := 21) (i := 3) dX12_parityOfEight_21 rfl rfl ?_
      refine r_iconst (pc := 22) dX12_parityOfEight_22 (in32_of rfl) ?_
      refine r_isubN (pc := 23) (c := (j - 1)) dX12_parityOfEight_23 (by unfold w32; omega) ?_
      refine r_ishr (pc := 24) dX12_parityOfEight_24 ?_
      refine r_iconst (pc := 25) dX12_parityOfEight_25 (in32_of rfl) ?_
      refine r_iand (pc := 26) dX12_parityOfEight_26 ?_
      refine r_iconst (pc := 27) dX12_parityOfEight_27 (in32_of rfl) ?_
      refine r_icmp_ne (pc := 28) (tgt := 48) dX12_parityOfEight_28 rfl (fun c28 => ?_) (fun c28 => ?_)
      · refine r_iconst (pc := 48) dX12_parityOfEight_48 (in32_of rfl) ?_
        refine r_ixor (pc := 49) dX12_parityOfEight_49 ?_
        refine r_istore (pc := 50) (i := 4) (lv' := [_, _, _, _, _, _]) dX12_parityOfEight_50 (by decide) rfl ?_
        refine r_iincN (pc := 52) (i := 5) (c := ((k + 1 : Nat) : Int)) (lv' := [_, _, _, _, _, _]) dX12_parityOfEight_52 rfl (by decide) (by unfold w32; omega) rfl ?_
        refine r_goto (pc := 55) (tgt := 6) dX12_parityOfEight_55 rfl ?_
        exact Ev.re (by rw [p8_succ]; first | rw [if_pos c16] | rw [if_neg c16, if_pos c28] | rw [if_neg c16, if_neg c28]) rfl (ih (k + 1) (by omega) (by omega))
      · have c28 := Decidable.of_not_not c28
        refine r_aload_n (pc := 31) (i := 0) dX12_parityOfEight_31 rfl rfl ?_
        refine r_getfr (pc := 32) (b := 283) cks dX12_parityOfEight_32 fl_X12_37 rfl (kM274 hT) (ltM hT (by omega)) (rM11 hT) ?_
        refine r_iload_n (pc := 35) (i := 1) dX12_parityOfEight_35 rfl rfl ?_
        refine r_bipush (pc := 36) dX12_parityOfEight_36 rfl (in32_of rfl) ?_
        refine r_iload_n (pc := 38) (i := 2) dX12_parityOfEight_38 rfl rfl ?_
        refine r_imulN (pc := 39) (c := ((8 * e : Nat) : Int)) dX12_parityOfEight_39 (by unfold w32; omega) ?_
        refine r_iaddN (pc := 40) (c := ((y + 8 * e : Nat) : Int)) dX12_parityOfEight_40 (by unfold w32; omega) ?_
        refine r_iload (pc := 41) (i := 5) dX12_parityOfEight_41 rfl ?_
        refine r_iaddN (pc := 43) (c := ((y + 8 * e + k : Nat) : Int)) dX12_parityOfEight_43 (by unfold w32; omega) ?_
        refine r_ild (pc := 44) (y + 8 * e + k) dX12_parityOfEight_44 (kM283 hT) (ltM hT (by omega)) rfl (by rw [lM283 hT]; omega) ?_
        refine r_top (b := N (y + 8 * e + k)) (sr_at _ _ _ _) ?_
        refine r_goto (pc := 45) (tgt := 49) dX12_parityOfEight_45 rfl ?_
        refine r_ixor (pc := 49) dX12_parityOfEight_49 ?_
        refine r_istore (pc := 50) (i := 4) (lv' := [_, _, _, _, _, _]) dX12_parityOfEight_50 (by decide) rfl ?_
        refine r_iincN (pc := 52) (i := 5) (c := ((k + 1 : Nat) : Int)) (lv' := [_, _, _, _, _, _]) dX12_parityOfEight_52 rfl (by decide) (by unfold w32; omega) rfl ?_
        refine r_goto (pc := 55) (tgt := 6) dX12_parityOfEight_55 rfl ?_
        exact Ev.re (by rw [p8_succ]; first | rw [if_pos c16] | rw [if_neg c16, if_pos c28] | rw [if_neg c16, if_neg c28]) rfl (ih (k + 1) (by omega) (by omega))
end M3
