section M2
variable {G : Gl} {d : Nat} {T : Sh} {I : Mi} {N : Nat → Int} {Q : Option AV → Sh → Mi → Prop}
theorem bi_1 {p : Prop} [Decidable p] (h : ¬ bi p = 0) : p := by
  by_cases g : p
  · exact g
  · exact absurd (bi_f g) h
def ofS (N : Nat → Int) (s w : Int) : Int := ian (isr (N (s.toNat + 20)) w) 1
def siS (N : Nat → Int) (s : Int) : Int := bi (ofS N s 1 = ofS N s 2)
def sgM (I : Mi) (N : Nat → Int) : Int := if N 0 = 0 then 0 else I 280 0
def Oin (N : Nat → Int) : Prop := ∀ j, 1044 ≤ j → j < 2580 → 0 ≤ N j ∧ N j < 256
def oP (N : Nat → Int) (p k : Nat) : Nat := (N (256 * p + k + 1044)).toNat
theorem oP_rd {N : Nat → Int} (h : Oin N) {p k : Nat} (hk : 256 * p + k < 1536) : N (256 * p + k + 1044) = (oP N p k : Int) ∧ oP N p k < 256 := by
  have := h (256 * p + k + 1044) (by omega) (by omega)
  unfold oP
  omega
theorem c_ofSignal {s w : Int} (hT : ShM T) (hs0 : 0 ≤ s) (hs1 : s < 256) (hq : Q (some (aI (ofS N s w))) T (sr I 283 N)) : EvE G mX12_ofSignal d [aR 274, aI s, aI w] T (sr I 283 N) Q := by
  refine EvE.mk (lv0 := [some (aR 274), some (aI s), some (aI w)]) (Nat.le_of_ble_eq_true rfl) (by decide +kernel) rfl ?_
  refine r_aload_n (pc := 0) (i := 0) dX12_ofSignal_0 rfl rfl ?_
  refine r_getfr (pc := 1) (b := 283) cks dX12_ofSignal_1 fl_X12_37 rfl (kM274 hT) (ltM hT (by omega)) (rM11 hT) ?_
  refine r_bipush (pc := 4) dX12_ofSignal_4 rfl (in32_of rfl) ?_
  refine r_iload_n (pc := 6) (i := 1) dX12_ofSignal_6 rfl rfl ?_
  refine r_iaddN (pc := 7) (c := (s + 20)) dX12_ofSignal_7 (by unfold w32; omega) ?_
  refine r_ild (pc := 8) ((s.toNat + 20)) dX12_ofSignal_8 (kM283 hT) (ltM hT (by omega)) (by omega) (by rw [lM283 hT]; omega) ?_
  refine r_top (b := N (s.toNat + 20)) (sr_at _ _ _ _) ?_
  refine r_iload_n (pc := 9) (i := 2) dX12_ofSignal_9 rfl rfl ?_
  refine r_ishr (pc := 10) dX12_ofSignal_10 ?_
  refine r_iconst (pc := 11) dX12_ofSignal_11 (in32_of rfl) ?_
  refine r_iand (pc := 12) dX12_ofSignal_12 ?_
  exact r_iret (pc := 13) dX12_ofSignal_13 trivial hq
theorem c_isSifted {s : Int} (hT : ShM T) (hd : 1 ≤ d) (hs0 : 0 ≤ s) (hs1 : s < 256) (hq : Q (some (aI (siS N s))) T (sr I 283 N)) : EvE G mX12_isSifted d [aR 274, aI s] T (sr I 283 N) Q := by
  refine EvE.mk (lv0 := [some (aR 274), some (aI s)]) (Nat.le_of_ble_eq_true rfl) (by decide +kernel) rfl ?_
  refine r_aload_n (pc := 0) (i := 0) dX12_isSifted_0 rfl rfl ?_
  refine r_iload_n (pc := 1) (i := 1) dX12_isSifted_1 rfl rfl ?_
  refine r_iconst (pc := 2) dX12_isSifted_2 (in32_of rfl) ?_
  refine r_callV1 (pc := 3) (d - 1) [aI s, aI 1] dX12_isSifted_3 (CV.mk2 mk_X12_ofSignal lk_X12_138) (RC.of (ltM hT (by omega)) (kM274 hT) (by decide) rfl) rfl rfl (by omega) (Nat.le_of_ble_eq_true rfl) (Nat.le_of_ble_eq_true rfl) (c_ofSignal hT (by omega) (by omega) ?_)
  refine ⟨_, rfl, fun _ => ?_⟩
  refine r_aload_n (pc := 6) (i := 0) dX12_isSifted_6 rfl rfl ?_
  refine r_iload_n (pc := 7) (i := 1) dX12_isSifted_7 rfl rfl ?_
  refine r_iconst (pc := 8) dX12_isSifted_8 (in32_of rfl) ?_
  refine r_callV1 (pc := 9) (d - 1) [aI s, aI 2] dX12_isSifted_9 (CV.mk2 mk_X12_ofSignal lk_X12_138) (RC.of (ltM hT (by omega)) (kM274 hT) (by decide) rfl) rfl rfl (by omega) (Nat.le_of_ble_eq_true rfl) (Nat.le_of_ble_eq_true rfl) (c_ofSignal hT (by omega) (by omega) ?_)
  refine ⟨_, rfl, fun _ => ?_⟩
  refine r_icmp_ne (pc := 12) (tgt := 19) dX12_isSifted_12 rfl (fun c12 => ?_) (fun c12 => ?_)
  · refine r_iconst (pc := 19) dX12_isSifted_19 (in32_of rfl) ?_
    exact r_iret (pc := 20) dX12_isSifted_20 (Or.inl rfl) (by rw [show siS N s = 0 from bi_f (c12)] at hq; exact hq)
  · have c12 := Decidable.of_not_not c12
    refine r_iconst (pc := 15) dX12_isSifted_15 (in32_of rfl) ?_
    refine r_goto (pc := 16) (tgt := 20) dX12_isSifted_16 rfl ?_
    exact r_iret (pc := 20) dX12_isSifted_20 (Or.inr rfl) (by rw [show siS N s = 1 from bi_t (c12)] at hq; exact hq)
theorem c_signalMany (hT : ShM T) (hq : Q (some (aI (sgM I N))) T (sr I 283 N)) : EvE G mX12_signalMany d [aR 274] T (sr I 283 N) Q := by
  refine EvE.mk (lv0 := [some (aR 274)]) (Nat.le_of_ble_eq_true rfl) (by decide +kernel) rfl ?_
  refine r_aload_n (pc := 0) (i := 0) dX12_signalMany_0 rfl rfl ?_
  refine r_getfr (pc := 1) (b := 283) cks dX12_signalMany_1 fl_X12_37 rfl (kM274 hT) (ltM hT (by omega)) (rM11 hT) ?_
  refine r_iconst (pc := 4) dX12_signalMany_4 (in32_of rfl) ?_
  refine r_ild (pc := 5) (0) dX12_signalMany_5 (kM283 hT) (ltM hT (by omega)) (by omega) (by rw [lM283 hT]; omega) ?_
  refine r_top (b := N 0) (sr_at _ _ _ _) ?_
  refine r_if_ne (pc := 6) (tgt := 13) dX12_signalMany_6 rfl (fun c6 => ?_) (fun c6 => ?_)
  · refine r_aload_n (pc := 13) (i := 0) dX12_signalMany_13 rfl rfl ?_
    refine r_getfr (pc := 14) (b := 280) cks dX12_signalMany_14 fl_X12_27 rfl (kM274 hT) (ltM hT (by omega)) (rM6 hT) ?_
    refine r_iconst (pc := 17) dX12_signalMany_17 (in32_of rfl) ?_
    refine r_ild (pc := 18) (0) dX12_signalMany_18 (kM280 hT) (ltM hT (by omega)) (by omega) (by rw [lM280 hT]; omega) ?_
    refine r_top (b := I 280 0) ((congrFun (sr_ne (by decide)) _).trans (rfl)) ?_
    exact r_iret (pc := 19) dX12_signalMany_19 trivial (by rw [show sgM I N = (I 280 0) from if_neg c6] at hq; exact hq)
  · have c6 := Decidable.of_not_not c6
    refine r_iconst (pc := 9) dX12_signalMany_9 (in32_of rfl) ?_
    refine r_goto (pc := 10) (tgt := 19) dX12_signalMany_10 rfl ?_
    exact r_iret (pc := 19) dX12_signalMany_19 trivial (by rw [show sgM I N = 0 from if_pos c6] at hq; exact hq)
def sigA (I : Mi) (N : Nat → Int) (s w : Int) : Int := if (0 ≤ s ∧ s ≤ sgM I N - 1) ∧ (0 ≤ w ∧ w ≤ 5) then (if w = 5 then siS N s else ofS N s w) else -1
theorem sgM_rng {I : Mi} {N : Nat → Int} (h0 : 0 ≤ I 280 0) (h1 : I 280 0 ≤ 256) : 0 ≤ sgM I N ∧ sgM I N ≤ 256 := by unfold sgM; split <;> omega
theorem c_signal {s w : Int} (hT : ShM T) (hd : 2 ≤ d) (hg0 : 0 ≤ I 280 0) (hg1 : I 280 0 ≤ 256) (hq : Q (some (aI (sigA I N s w))) T (sr I 283 N)) : EvE G mX12_signal d [aR 274, aI s, aI w] T (sr I 283 N) Q := by
  have hg := sgM_rng (N := N) hg0 hg1
  refine EvE.mk (lv0 := [some (aR 274), some (aI s), some (aI w)]) (Nat.le_of_ble_eq_true rfl) (by decide +kernel) rfl ?_
  refine r_iload_n (pc := 0) (i := 1) dX12_signal_0 rfl rfl ?_
  refine r_i2l (pc := 1) dX12_signal_1 ?_
  refine r_lconst (pc := 2) (z := 0) dX12_signal_2 rfl (in64_of rfl) ?_
  refine r_aload_n (pc := 3) (i := 0) dX12_signal_3 rfl rfl ?_
  refine r_callV1 (pc := 4) (d - 1) [] dX12_signal_4 (CV.mk2 mk_X12_signalMany lk_X12_240) (RC.of (ltM hT (by omega)) (kM274 hT) (by decide) rfl) rfl rfl (by omega) (Nat.le_of_ble_eq_true rfl) (Nat.le_of_ble_eq_true rfl) (c_signalMany hT ?_)
  refine ⟨_, rfl, fun _ => ?_⟩
  refine r_iconst (pc := 7) dX12_signal_7 (in32_of rfl) ?_
  refine r_isubN (pc := 8) (c := ((sgM I N) - 1)) dX12_signal_8 (by unfold w32; omega) ?_
  refine r_i2l (pc := 9) dX12_signal_9 ?_
  refine r_callS1 (pc := 10) (d - 1) [aL s, aL 0, aL ((sgM I N) - 1)] dX12_signal_10 (CS.mk2 mk_X12_isIn1 lk_X12_76) rfl rfl (by omega) (Nat.le_of_ble_eq_true rfl) (Nat.le_of_ble_eq_true rfl) (c_isIn1 ?_)
  refine ⟨_, rfl, fun _ => ?_⟩
  refine r_if_eq (pc := 13) (tgt := 28) dX12_signal_13 rfl (fun c13 => ?_) (fun c13 => ?_)
  · have c13 := bi_if.mp c13
    refine r_iconst (pc := 28) dX12_signal_28 (in32_of rfl) ?_
    exact r_iret (pc := 29) dX12_signal_29 trivial (by rw [show sigA I N s w = -1 from if_neg (by omega)] at hq; exact hq)
  · have c13 := bi_1 c13
    refine r_iload_n (pc := 16) (i := 2) dX12_signal_16 rfl rfl ?_
    refine r_i2l (pc := 17) dX12_signal_17 ?_
    refine r_lconst (pc := 18) (z := 0) dX12_signal_18 rfl (in64_of rfl) ?_
    refine r_ldc2 (pc := 19) (n := 5) dX12_signal_19 cn_X12_243 (in64_of rfl) ?_
    refine r_callS1 (pc := 22) (d - 1) [aL w, aL 0, aL 5] dX12_signal_22 (CS.mk2 mk_X12_isIn1 lk_X12_76) rfl rfl (by omega) (Nat.le_of_ble_eq_true rfl) (Nat.le_of_ble_eq_true rfl) (c_isIn1 ?_)
    refine ⟨_, rfl, fun _ => ?_⟩
    refine r_if_ne (pc := 25) (tgt := 30) dX12_signal_25 rfl (fun c25 => ?_) (fun c25 => ?_)
    · have c25 := bi_1 c25
      refine r_iload_n (pc := 30) (i := 2) dX12_signal_30 rfl rfl ?_
      have hw : w = 0 ∨ w = 1 ∨ w = 2 ∨ w = 3 ∨ w = 4 ∨ w = 5 := by omega
      rcases hw with rfl | rfl | rfl | rfl | rfl | rfl
      · refine r_tsw_in (pc := 31) (tgt := 64) dX12_signal_31 (by decide) (by decide) rfl rfl ?_
        refine r_aload_n (pc := 64) (i := 0) dX12_signal_64 rfl rfl ?_
        refine r_iload_n (pc := 65) (i := 1) dX12_signal_65 rfl rfl ?_
        refine r_iconst (pc := 66) dX12_signal_66 (in32_of rfl) ?_
        refine r_callV1 (pc := 67) (d - 1) [aI s, aI 0] dX12_signal_67 (CV.mk2 mk_X12_ofSignal lk_X12_138) (RC.of (ltM hT (by omega)) (kM274 hT) (by decide) rfl) rfl rfl (by omega) (Nat.le_of_ble_eq_true rfl) (Nat.le_of_ble_eq_true rfl) (c_ofSignal hT (by omega) (by omega) ?_)
        refine ⟨_, rfl, fun _ => ?_⟩
        exact r_iret (pc := 70) dX12_signal_70 trivial (by rw [show sigA I N s 0 = (ofS N s 0) from (if_pos (by omega)).trans (if_neg (by decide))] at hq; exact hq)
      · refine r_tsw_in (pc := 31) (tgt := 71) dX12_signal_31 (by decide) (by decide) rfl rfl ?_
        refine r_aload_n (pc := 71) (i := 0) dX12_signal_71 rfl rfl ?_
        refine r_iload_n (pc := 72) (i := 1) dX12_signal_72 rfl rfl ?_
        refine r_iconst (pc := 73) dX12_signal_73 (in32_of rfl) ?_
        refine r_callV1 (pc := 74) (d - 1) [aI s, aI 1] dX12_signal_74 (CV.mk2 mk_X12_ofSignal lk_X12_138) (RC.of (ltM hT (by omega)) (kM274 hT) (by decide) rfl) rfl rfl (by omega) (Nat.le_of_ble_eq_true rfl) (Nat.le_of_ble_eq_true rfl) (c_ofSignal hT (by omega) (by omega) ?_)
        refine ⟨_, rfl, fun _ => ?_⟩
        exact r_iret (pc := 77) dX12_signal_77 trivial (by rw [show sigA I N s 1 = (ofS N s 1) from (if_pos (by omega)).trans (if_neg (by decide))] at hq; exact hq)
      · refine r_tsw_in (pc := 31) (tgt := 78) dX12_signal_31 (by decide) (by decide) rfl rfl ?_
        refine r_aload_n (pc := 78) (i := 0) dX12_signal_78 rfl rfl ?_
        refine r_iload_n (pc := 79) (i := 1) dX12_signal_79 rfl rfl ?_
        refine r_iconst (pc := 80) dX12_signal_80 (in32_of rfl) ?_
        refine r_callV1 (pc := 81) (d - 1) [aI s, aI 2] dX12_signal_81 (CV.mk2 mk_X12_ofSignal lk_X12_138) (RC.of (ltM hT (by omega)) (kM274 hT) (by decide) rfl) rfl rfl (by omega) (Nat.le_of_ble_eq_true rfl) (Nat.le_of_ble_eq_true rfl) (c_ofSignal hT (by omega) (by omega) ?_)
        refine ⟨_, rfl, fun _ => ?_⟩
        exact r_iret (pc := 84) dX12_signal_84 trivial (by rw [show sigA I N s 2 = (ofS N s 2) from (if_pos (by omega)).trans (if_neg (by decide))] at hq; exact hq)
      · refine r_tsw_in (pc := 31) (tgt := 85) dX12_signal_31 (by decide) (by decide) rfl rfl ?_
        refine r_aload_n (pc := 85) (i := 0) dX12_signal_85 rfl rfl ?_
        refine r_iload_n (pc := 86) (i := 1) dX12_signal_86 rfl rfl ?_
        refine r_iconst (pc := 87) dX12_signal_87 (in32_of rfl) ?_
        refine r_callV1 (pc := 88) (d - 1) [aI s, aI 3] dX12_signal_88 (CV.mk2 mk_X12_ofSignal lk_X12_138) (RC.of (ltM hT (by omega)) (kM274 hT) (by decide) rfl) rfl rfl (by omega) (Nat.le_of_ble_eq_true rfl) (Nat.le_of_ble_eq_true rfl) (c_ofSignal hT (by omega) (by omega) ?_)
        refine ⟨_, rfl, fun _ => ?_⟩
        exact r_iret (pc := 91) dX12_signal_91 trivial (by rw [show sigA I N s 3 = (ofS N s 3) from (if_pos (by omega)).trans (if_neg (by decide))] at hq; exact hq)
      · refine r_tsw_in (pc := 31) (tgt := 92) dX12_signal_31 (by decide) (by decide) rfl rfl ?_
        refine r_aload_n (pc := 92) (i := 0) dX12_signal_92 rfl rfl ?_
        refine r_iload_n (pc := 93) (i := 1) dX12_signal_93 rfl rfl ?_
        refine r_iconst (pc := 94) dX12_signal_94 (in32_of rfl) ?_
        refine r_callV1 (pc := 95) (d - 1) [aI s, aI 4] dX12_signal_95 (CV.mk2 mk_X12_ofSignal lk_X12_138) (RC.of (ltM hT (by omega)) (kM274 hT) (by decide) rfl) rfl rfl (by omega) (Nat.le_of_ble_eq_true rfl) (Nat.le_of_ble_eq_true rfl) (c_ofSignal hT (by omega) (by omega) ?_)
        refine ⟨_, rfl, fun _ => ?_⟩
        exact r_iret (pc := 98) dX12_signal_98 trivial (by rw [show sigA I N s 4 = (ofS N s 4) from (if_pos (by omega)).trans (if_neg (by decide))] at hq; exact hq)
      · refine r_tsw_out (pc := 31) (tgt := 99) dX12_signal_31 (Or.inr (by decide)) rfl ?_
        refine r_aload_n (pc := 99) (i := 0) dX12_signal_99 rfl rfl ?_
        refine r_iload_n (pc := 100) (i := 1) dX12_signal_100 rfl rfl ?_
        refine r_callV1 (pc := 101) (d - 1) [aI s] dX12_signal_101 (CV.mk2 mk_X12_isSifted lk_X12_146) (RC.of (ltM hT (by omega)) (kM274 hT) (by decide) rfl) rfl rfl (by omega) (Nat.le_of_ble_eq_true rfl) (Nat.le_of_ble_eq_true rfl) (c_isSifted hT (by omega) (by omega) (by omega) ?_)
        refine ⟨_, rfl, fun _ => ?_⟩
        refine r_if_eq (pc := 104) (tgt := 111) dX12_signal_104 rfl (fun c104 => ?_) (fun c104 => ?_)
        · have c104 := bi_if.mp c104
          refine r_iconst (pc := 111) dX12_signal_111 (in32_of rfl) ?_
          exact r_iret (pc := 112) dX12_signal_112 trivial (by rw [show sigA I N s 5 = 0 from ((if_pos (by omega)).trans (if_pos rfl)).trans (bi_f c104)] at hq; exact hq)
        · have c104 := bi_1 c104
          refine r_iconst (pc := 107) dX12_signal_107 (in32_of rfl) ?_
          refine r_goto (pc := 108) (tgt := 112) dX12_signal_108 rfl ?_
          exact r_iret (pc := 112) dX12_signal_112 trivial (by rw [show sigA I N s 5 = 1 from ((if_pos (by omega)).trans (if_pos rfl)).trans (bi_t c104)] at hq; exact hq)
    · have c25 := bi_if.mp (Decidable.of_not_not c25)
      refine r_iconst (pc := 28) dX12_signal_28 (in32_of rfl) ?_
      exact r_iret (pc := 29) dX12_signal_29 trivial (by rw [show sigA I N s w = -1 from if_neg (by omega)] at hq; exact hq)
def keyA (N : Nat → Int) (n : Nat) (s p : Int) : Int := if (0 ≤ s ∧ s ≤ 1) ∧ (0 ≤ p ∧ p < n) then (if s = 0 then N (p.toNat + 276) else N (p.toNat + 532)) else -1
def ordA (N : Nat → Int) (n : Nat) (p k : Int) : Int := if (0 ≤ p ∧ p < N 2) ∧ (0 ≤ k ∧ k < n) then N (256 * p.toNat + k.toNat + 1044) else -1
def lstA (N : Nat → Int) (s i : Int) : Int := if (0 ≤ s ∧ s ≤ 1) ∧ (0 ≤ i ∧ i ≤ N 6 - 1) then (if s = 0 then N (i.toNat + 3390) else N (i.toNat + 3646)) else -1
theorem c_key {n : Nat} {s p : Int} (hT : ShM T) (hd : 1 ≤ d) (hn : N 1 = (n : Int)) (hn2 : n ≤ 256) (hq : Q (some (aI (keyA N n s p))) T (sr I 283 N)) : EvE G mX12_key d [aR 274, aI s, aI p] T (sr I 283 N) Q := by
  refine EvE.mk (lv0 := [some (aR 274), some (aI s), some (aI p)]) (Nat.le_of_ble_eq_true rfl) (by decide +kernel) rfl ?_
  refine r_iload_n (pc := 0) (i := 1) dX12_key_0 rfl rfl ?_
  refine r_i2l (pc := 1) dX12_key_1 ?_
  refine r_lconst (pc := 2) (z := 0) dX12_key_2 rfl (in64_of rfl) ?_
  refine r_lconst (pc := 3) (z := 1) dX12_key_3 rfl (in64_of rfl) ?_
  refine r_callS1 (pc := 4) (d - 1) [aL s, aL 0, aL 1] dX12_key_4 (CS.mk2 mk_X12_isIn1 lk_X12_76) rfl rfl (by omega) (Nat.le_of_ble_eq_true rfl) (Nat.le_of_ble_eq_true rfl) (c_isIn1 ?_)
  refine ⟨_, rfl, fun _ => ?_⟩
  refine r_if_eq (pc := 7) (tgt := 18) dX12_key_7 rfl (fun c7 => ?_) (fun c7 => ?_)
  · have c7 := bi_if.mp c7
    refine r_iconst (pc := 18) dX12_key_18 (in32_of rfl) ?_
    exact r_iret (pc := 19) dX12_key_19 trivial (by rw [show keyA N n s p = (-1) by unfold keyA; (repeat' split) <;> first | rfl | omega | (exfalso; omega)] at hq; exact hq)
  · have c7 := bi_1 c7
    refine r_aload_n (pc := 10) (i := 0) dX12_key_10 rfl rfl ?_
    refine r_iload_n (pc := 11) (i := 2) dX12_key_11 rfl rfl ?_
    refine r_callV1 (pc := 12) (d - 1) [aI p] dX12_key_12 (CV.mk2 mk_X12_isPlace lk_X12_232) (RC.of (ltM hT (by omega)) (kM274 hT) (by decide) rfl) rfl rfl (by omega) (Nat.le_of_ble_eq_true rfl) (Nat.le_of_ble_eq_true rfl) (c_isPlace hT hn ?_)
    refine ⟨_, rfl, fun _ => ?_⟩
    refine r_if_ne (pc := 15) (tgt := 20) dX12_key_15 rfl (fun c15 => ?_) (fun c15 => ?_)
    · have c15 := bi_1 c15
      refine r_aload_n (pc := 20) (i := 0) dX12_key_20 rfl rfl ?_
      refine r_getfr (pc := 21) (b := 283) cks dX12_key_21 fl_X12_37 rfl (kM274 hT) (ltM hT (by omega)) (rM11 hT) ?_
      refine r_iload_n (pc := 24) (i := 1) dX12_key_24 rfl rfl ?_
      refine r_if_ne (pc := 25) (tgt := 34) dX12_key_25 rfl (fun c25 => ?_) (fun c25 => ?_)
      · refine r_sipush (pc := 34) dX12_key_34 rfl (in32_of rfl) ?_
        refine r_iload_n (pc := 37) (i := 2) dX12_key_37 rfl rfl ?_
        refine r_iaddN (pc := 38) (c := (p + 532)) dX12_key_38 (by unfold w32; omega) ?_
        refine r_ild (pc := 39) (p.toNat + 532) dX12_key_39 (kM283 hT) (ltM hT (by omega)) (by omega) (by rw [lM283 hT]; omega) ?_
        refine r_top (b := N (p.toNat + 532)) (sr_at _ _ _ _) ?_
        exact r_iret (pc := 40) dX12_key_40 trivial (by rw [show keyA N n s p = (N (p.toNat + 532)) by unfold keyA; (repeat' split) <;> first | rfl | omega | (exfalso; omega)] at hq; exact hq)
      · have c25 := Decidable.of_not_not c25
        refine r_sipush (pc := 28) dX12_key_28 rfl (in32_of rfl) ?_
        refine r_goto (pc := 31) (tgt := 37) dX12_key_31 rfl ?_
        refine r_iload_n (pc := 37) (i := 2) dX12_key_37 rfl rfl ?_
        refine r_iaddN (pc := 38) (c := (p + 276)) dX12_key_38 (by unfold w32; omega) ?_
        refine r_ild (pc := 39) (p.toNat + 276) dX12_key_39 (kM283 hT) (ltM hT (by omega)) (by omega) (by rw [lM283 hT]; omega) ?_
        refine r_top (b := N (p.toNat + 276)) (sr_at _ _ _ _) ?_
        exact r_iret (pc := 40) dX12_key_40 trivial (by rw [show keyA N n s p = (N (p.toNat + 276)) by unfold keyA; (repeat' split) <;> first | rfl | omega | (exfalso; omega)] at hq; exact hq)
    · have c15 := bi_if.mp (Decidable.of_not_not c15)
      refine r_iconst (pc := 18) dX12_key_18 (in32_of rfl) ?_
      exact r_iret (pc := 19) dX12_key_19 trivial (by rw [show keyA N n s p = (-1) by unfold keyA; (repeat' split) <;> first | rfl | omega | (exfalso; omega)] at hq; exact hq)
theorem c_order {n : Nat} {p k : Int} (hT : ShM T) (hd : 1 ≤ d) (hn : N 1 = (n : Int)) (hn2 : n ≤ 256) (hdn : N 2 ≤ 6) (hq : Q (some (aI (ordA N n p k))) T (sr I 283 N)) : EvE G mX12_order d [aR 274, aI p, aI k] T (sr I 283 N) Q := by
  refine EvE.mk (lv0 := [some (aR 274), some (aI p), some (aI k)]) (Nat.le_of_ble_eq_true rfl) (by decide +kernel) rfl ?_
  refine r_aload_n (pc := 0) (i := 0) dX12_order_0 rfl rfl ?_
  refine r_iload_n (pc := 1) (i := 1) dX12_order_1 rfl rfl ?_
  refine r_callV1 (pc := 2) (d - 1) [aI p] dX12_order_2 (CV.mk2 mk_X12_isPass lk_X12_245) (RC.of (ltM hT (by omega)) (kM274 hT) (by decide) rfl) rfl rfl (by omega) (Nat.le_of_ble_eq_true rfl) (Nat.le_of_ble_eq_true rfl) (c_isPass hT ?_)
  refine ⟨_, rfl, fun _ => ?_⟩
  refine r_if_eq (pc := 5) (tgt := 35) dX12_order_5 rfl (fun c5 => ?_) (fun c5 => ?_)
  · have c5 := bi_if.mp c5
    refine r_iconst (pc := 35) dX12_order_35 (in32_of rfl) ?_
    exact r_iret (pc := 36) dX12_order_36 trivial (by rw [show ordA N n p k = (-1) by unfold ordA; (repeat' split) <;> first | rfl | omega | (exfalso; omega)] at hq; exact hq)
  · have c5 := bi_1 c5
    refine r_aload_n (pc := 8) (i := 0) dX12_order_8 rfl rfl ?_
    refine r_iload_n (pc := 9) (i := 2) dX12_order_9 rfl rfl ?_
    refine r_callV1 (pc := 10) (d - 1) [aI k] dX12_order_10 (CV.mk2 mk_X12_isPlace lk_X12_232) (RC.of (ltM hT (by omega)) (kM274 hT) (by decide) rfl) rfl rfl (by omega) (Nat.le_of_ble_eq_true rfl) (Nat.le_of_ble_eq_true rfl) (c_isPlace hT hn ?_)
    refine ⟨_, rfl, fun _ => ?_⟩
    refine r_if_eq (pc := 13) (tgt := 35) dX12_order_13 rfl (fun c13 => ?_) (fun c13 => ?_)
    · have c13 := bi_if.mp c13
      refine r_iconst (pc := 35) dX12_order_35 (in32_of rfl) ?_
      exact r_iret (pc := 36) dX12_order_36 trivial (by rw [show ordA N n p k = (-1) by unfold ordA; (repeat' split) <;> first | rfl | omega | (exfalso; omega)] at hq; exact hq)
    · have c13 := bi_1 c13
      refine r_aload_n (pc := 16) (i := 0) dX12_order_16 rfl rfl ?_
      refine r_getfr (pc := 17) (b := 283) cks dX12_order_17 fl_X12_37 rfl (kM274 hT) (ltM hT (by omega)) (rM11 hT) ?_
      refine r_sipush (pc := 20) dX12_order_20 rfl (in32_of rfl) ?_
      refine r_sipush (pc := 23) dX12_order_23 rfl (in32_of rfl) ?_
      refine r_iload_n (pc := 26) (i := 1) dX12_order_26 rfl rfl ?_
      refine r_imulN (pc := 27) (c := (256 * p)) dX12_order_27 (by unfold w32; omega) ?_
      refine r_iaddN (pc := 28) (c := (256 * p + 1044)) dX12_order_28 (by unfold w32; omega) ?_
      refine r_iload_n (pc := 29) (i := 2) dX12_order_29 rfl rfl ?_
      refine r_iaddN (pc := 30) (c := (256 * p + k + 1044)) dX12_order_30 (by unfold w32; omega) ?_
      refine r_ild (pc := 31) (256 * p.toNat + k.toNat + 1044) dX12_order_31 (kM283 hT) (ltM hT (by omega)) (by omega) (by rw [lM283 hT]; omega) ?_
      refine r_top (b := N (256 * p.toNat + k.toNat + 1044)) (sr_at _ _ _ _) ?_
      refine r_goto (pc := 32) (tgt := 36) dX12_order_32 rfl ?_
      exact r_iret (pc := 36) dX12_order_36 trivial (by rw [show ordA N n p k = (N (256 * p.toNat + k.toNat + 1044)) by unfold ordA; (repeat' split) <;> first | rfl | omega | (exfalso; omega)] at hq; exact hq)
theorem c_last {s i : Int} (hT : ShM T) (hd : 1 ≤ d) (hl : N 6 ≤ 256) (hl0 : 0 ≤ N 6) (hq : Q (some (aI (lstA N s i))) T (sr I 283 N)) : EvE G mX12_last d [aR 274, aI s, aI i] T (sr I 283 N) Q := by
  refine EvE.mk (lv0 := [some (aR 274), some (aI s), some (aI i)]) (Nat.le_of_ble_eq_true rfl) (by decide +kernel) rfl ?_
  refine r_iload_n (pc := 0) (i := 1) dX12_last_0 rfl rfl ?_
  refine r_i2l (pc := 1) dX12_last_1 ?_
  refine r_lconst (pc := 2) (z := 0) dX12_last_2 rfl (in64_of rfl) ?_
  refine r_lconst (pc := 3) (z := 1) dX12_last_3 rfl (in64_of rfl) ?_
  refine r_callS1 (pc := 4) (d - 1) [aL s, aL 0, aL 1] dX12_last_4 (CS.mk2 mk_X12_isIn1 lk_X12_76) rfl rfl (by omega) (Nat.le_of_ble_eq_true rfl) (Nat.le_of_ble_eq_true rfl) (c_isIn1 ?_)
  refine ⟨_, rfl, fun _ => ?_⟩
  refine r_if_eq (pc := 7) (tgt := 29) dX12_last_7 rfl (fun c7 => ?_) (fun c7 => ?_)
  · have c7 := bi_if.mp c7
    refine r_iconst (pc := 29) dX12_last_29 (in32_of rfl) ?_
    exact r_iret (pc := 30) dX12_last_30 trivial (by rw [show lstA N s i = (-1) by unfold lstA; (repeat' split) <;> first | rfl | omega | (exfalso; omega)] at hq; exact hq)
  · have c7 := bi_1 c7
    refine r_iload_n (pc := 10) (i := 2) dX12_last_10 rfl rfl ?_
    refine r_i2l (pc := 11) dX12_last_11 ?_
    refine r_lconst (pc := 12) (z := 0) dX12_last_12 rfl (in64_of rfl) ?_
    refine r_aload_n (pc := 13) (i := 0) dX12_last_13 rfl rfl ?_
    refine r_getfr (pc := 14) (b := 283) cks dX12_last_14 fl_X12_37 rfl (kM274 hT) (ltM hT (by omega)) (rM11 hT) ?_
    refine r_bipush (pc := 17) dX12_last_17 rfl (in32_of rfl) ?_
    refine r_ild (pc := 19) (6) dX12_last_19 (kM283 hT) (ltM hT (by omega)) (by omega) (by rw [lM283 hT]; omega) ?_
    refine r_top (b := N 6) (sr_at _ _ _ _) ?_
    refine r_iconst (pc := 20) dX12_last_20 (in32_of rfl) ?_
    refine r_isubN (pc := 21) (c := ((N 6) - 1)) dX12_last_21 (by unfold w32; omega) ?_
    refine r_i2l (pc := 22) dX12_last_22 ?_
    refine r_callS1 (pc := 23) (d - 1) [aL i, aL 0, aL ((N 6) - 1)] dX12_last_23 (CS.mk2 mk_X12_isIn1 lk_X12_76) rfl rfl (by omega) (Nat.le_of_ble_eq_true rfl) (Nat.le_of_ble_eq_true rfl) (c_isIn1 ?_)
    refine ⟨_, rfl, fun _ => ?_⟩
    refine r_if_ne (pc := 26) (tgt := 31) dX12_last_26 rfl (fun c26 => ?_) (fun c26 => ?_)
    · have c26 := bi_1 c26
      refine r_aload_n (pc := 31) (i := 0) dX12_last_31 rfl rfl ?_
      refine r_getfr (pc := 32) (b := 283) cks dX12_last_32 fl_X12_37 rfl (kM274 hT) (ltM hT (by omega)) (rM11 hT) ?_
      refine r_iload_n (pc := 35) (i := 1) dX12_last_35 rfl rfl ?_
      refine r_if_ne (pc := 36) (tgt := 45) dX12_last_36 rfl (fun c36 => ?_) (fun c36 => ?_)
      · refine r_sipush (pc := 45) dX12_last_45 rfl (in32_of rfl) ?_
        refine r_iload_n (pc := 48) (i := 2) dX12_last_48 rfl rfl ?_
        refine r_iaddN (pc := 49) (c := (i + 3646)) dX12_last_49 (by unfold w32; omega) ?_
        refine r_ild (pc := 50) (i.toNat + 3646) dX12_last_50 (kM283 hT) (ltM hT (by omega)) (by omega) (by rw [lM283 hT]; omega) ?_
        refine r_top (b := N (i.toNat + 3646)) (sr_at _ _ _ _) ?_
        exact r_iret (pc := 51) dX12_last_51 trivial (by rw [show lstA N s i = (N (i.toNat + 3646)) by unfold lstA; (repeat' split) <;> first | rfl | omega | (exfalso; omega)] at hq; exact hq)
      · have c36 := Decidable.of_not_not c36
        refine r_sipush (pc := 39) dX12_last_39 rfl (in32_of rfl) ?_
        refine r_goto (pc := 42) (tgt := 48) dX12_last_42 rfl ?_
        refine r_iload_n (pc := 48) (i := 2) dX12_last_48 rfl rfl ?_
        refine r_iaddN (pc := 49) (c := (i + 3390)) dX12_last_49 (by unfold w32; omega) ?_
        refine r_ild (pc := 50) (i.toNat + 3390) dX12_last_50 (kM283 hT) (ltM hT (by omega)) (by omega) (by rw [lM283 hT]; omega) ?_
        refine r_top (b := N (i.toNat + 3390)) (sr_at _ _ _ _) ?_
        exact r_iret (pc := 51) dX12_last_51 trivial (by rw [show lstA N s i = (N (i.toNat + 3390)) by unfold lstA; (repeat' split) <;> first | rfl | omega | (exfalso; omega)] at hq; exact hq)
    · have c26 := bi_if.mp (Decidable.of_not_not c26)
      refine r_iconst (pc := 29) dX12_last_29 (in32_of rfl) ?_
      exact r_iret (pc := 30) dX12_last_30 trivial (by rw [show lstA N s i = (-1) by unfold lstA; (repeat' split) <;> first | rfl | omega | (exfalso; omega)] at hq; exact hq)
def cdN (N : Nat → Int) (k : Int) : Int := N (k.toNat + 3902)
def tkN (N : Nat → Int) (k : Int) : Int := ian (cdN N k) 3
def tpN (N : Nat → Int) (k f b : Int) : Int := ian (isr (cdN N k) f) (w32 (isl 1 b - 1))
theorem c_toldKind {k : Int} (hT : ShM T) (hk0 : 0 ≤ k) (hk1 : k < 13608) (hq : Q (some (aI (tkN N k))) T (sr I 283 N)) : EvE G mX12_toldKind d [aR 274, aI k] T (sr I 283 N) Q := by
  refine EvE.mk (lv0 := [some (aR 274), some (aI k)]) (Nat.le_of_ble_eq_true rfl) (by decide +kernel) rfl ?_
  refine r_aload_n (pc := 0) (i := 0) dX12_toldKind_0 rfl rfl ?_
  refine r_getfr (pc := 1) (b := 283) cks dX12_toldKind_1 fl_X12_37 rfl (kM274 hT) (ltM hT (by omega)) (rM11 hT) ?_
  refine r_sipush (pc := 4) dX12_toldKind_4 rfl (in32_of rfl) ?_
  refine r_iload_n (pc := 7) (i := 1) dX12_toldKind_7 rfl rfl ?_
  refine r_iaddN (pc := 8) (c := (k + 3902)) dX12_toldKind_8 (by unfold w32; omega) ?_
  refine r_ild (pc := 9) ((k.toNat + 3902)) dX12_toldKind_9 (kM283 hT) (ltM hT (by omega)) (by omega) (by rw [lM283 hT]; omega) ?_
  refine r_top (b := N (k.toNat + 3902)) (sr_at _ _ _ _) ?_
  refine r_iconst (pc := 10) dX12_toldKind_10 (in32_of rfl) ?_
  refine r_iand (pc := 11) dX12_toldKind_11 ?_
  exact r_iret (pc := 12) dX12_toldKind_12 trivial hq
theorem c_toldPart {k f b : Int} (hT : ShM T) (hk0 : 0 ≤ k) (hk1 : k < 13608) (hq : Q (some (aI (tpN N k f b))) T (sr I 283 N)) : EvE G mX12_toldPart d [aR 274, aI k, aI f, aI b] T (sr I 283 N) Q := by
  refine EvE.mk (lv0 := [some (aR 274), some (aI k), some (aI f), some (aI b)]) (Nat.le_of_ble_eq_true rfl) (by decide +kernel) rfl ?_
  refine r_aload_n (pc := 0) (i := 0) dX12_toldPart_0 rfl rfl ?_
  refine r_getfr (pc := 1) (b := 283) cks dX12_toldPart_1 fl_X12_37 rfl (kM274 hT) (ltM hT (by omega)) (rM11 hT) ?_
  refine r_sipush (pc := 4) dX12_toldPart_4 rfl (in32_of rfl) ?_
  refine r_iload_n (pc := 7) (i := 1) dX12_toldPart_7 rfl rfl ?_
  refine r_iaddN (pc := 8) (c := (k + 3902)) dX12_toldPart_8 (by unfold w32; omega) ?_
  refine r_ild (pc := 9) ((k.toNat + 3902)) dX12_toldPart_9 (kM283 hT) (ltM hT (by omega)) (by omega) (by rw [lM283 hT]; omega) ?_
  refine r_top (b := N (k.toNat + 3902)) (sr_at _ _ _ _) ?_
  refine r_iload_n (pc := 10) (i := 2) dX12_toldPart_10 rfl rfl ?_
  refine r_ishr (pc := 11) dX12_toldPart_11 ?_
  refine r_iconst (pc := 12) dX12_toldPart_12 (in32_of rfl) ?_
  refine r_iload_n (pc := 13) (i := 3) dX12_toldPart_13 rfl rfl ?_
  refine r_ishl (pc := 14) dX12_toldPart_14 ?_
  refine r_iconst (pc := 15) dX12_toldPart_15 (in32_of rfl) ?_
  refine r_isubN (pc := 16) (c := (w32 (isl 1 b - 1))) dX12_toldPart_16 rfl ?_
  refine r_iand (pc := 17) dX12_toldPart_17 ?_
  exact r_iret (pc := 18) dX12_toldPart_18 trivial hq
def parO (N : Nat → Int) (y p b : Nat) : Nat → Int
  | 0 => 0
  | m + 1 => ixo (parO N y p b m) (N (y + oP N p (b + m)))
theorem parO_succ (N : Nat → Int) (y p b m : Nat) : parO N y p b (m + 1) = ixo (parO N y p b m) (N (y + oP N p (b + m))) := rfl
def parR (N : Nat → Int) (y r i : Nat) : Nat → Int
  | 0 => 0
  | m + 1 => ixo (parR N y r i m) (ian (N (y + m)) (N (r + i + m)))
theorem parR_succ (N : Nat → Int) (y r i m : Nat) : parR N y r i (m + 1) = ixo (parR N y r i m) (ian (N (y + m)) (N (r + i + m))) := rfl
theorem c_parityOf {y p b m : Nat} (hT : ShM T) (hO : Oin N) (hy : y ≤ 600) (hp : p < 6) (hb : b + m ≤ 256) (hq : Q (some (aI (parO N y p b m))) T (sr I 283 N)) : EvE G mX12_parityOf d [aR 274, aI ((y : Nat) : Int), aI ((p : Nat) : Int), aI ((b : Nat) : Int), aI ((m : Nat) : Int)] T (sr I 283 N) Q := by
  refine EvE.mk (lv0 := [some (aR 274), some (aI ((y : Nat) : Int)), some (aI ((p : Nat) : Int)), some (aI ((b : Nat) : Int)), some (aI ((m : Nat) : Int)), none, none]) (Nat.le_of_ble_eq_true rfl) (by decide +kernel) rfl ?_
  refine r_iconst (pc := 0) dX12_parityOf_0 (in32_of rfl) ?_
  refine r_istore (pc := 1) (i := 5) (lv' := [_, _, _, _, _, _, _]) dX12_parityOf_1 (by decide) rfl ?_
  refine r_iload_n (pc := 3) (i := 3) dX12_parityOf_3 rfl rfl ?_
  refine r_istore (pc := 4) (i := 6) (lv' := [_, _, _, _, _, _, _]) dX12_parityOf_4 (by decide) rfl ?_
  refine loop1 (fun (k : Nat) => k ≤ m) (fun (k : Nat) => m - k) (fun (k : Nat) => [some (aR 274), some (aI ((y : Nat) : Int)), some (aI ((p : Nat) : Int)), some (aI ((b : Nat) : Int)), some (aI ((m : Nat) : Int)), some (aI (parO N y p b k)), some (aI ((b + k : Nat) : Int))]) (fun _ => T) (fun (k : Nat) => sr I 283 N) ?_ 0 (Nat.zero_le _)
  intro k hP ih
  have hP : k ≤ m := hP
  refine (?_ : Ev G mX12_parityOf d 6 [some (aR 274), some (aI ((y : Nat) : Int)), some (aI ((p : Nat) : Int)), some (aI ((b : Nat) : Int)), some (aI ((m : Nat) : Int)), some (aI (parO N y p b k)), some (aI ((b + k : Nat) : Int))] [] T (sr I 283 N) Q)
  refine r_iload (pc := 6) (i := 6) dX12_parityOf_6 rfl ?_
  refine r_iload_n (pc := 8) (i := 3) dX12_parityOf_8 rfl rfl ?_
  refine r_iload (pc := 9) (i := 4) dX12_parityOf_9 rfl ?_
  refine r_iaddN (pc := 11) (c := ((b + m : Nat) : Int)) dX12_parityOf_11 (by unfold w32; omega) ?_
  refine r_icmp_ge (pc := 12) (tgt := 50) dX12_parityOf_12 rfl (fun c12 => ?_) (fun c12 => ?_)
  · refine r_iload (pc := 50) (i := 5) dX12_parityOf_50 rfl ?_
    exact r_iret (pc := 52) dX12_parityOf_52 trivial (by rw [show m = k by omega] at hq; exact hq)
  · refine r_iload (pc := 15) (i := 5) dX12_parityOf_15 rfl ?_
    refine r_aload_n (pc := 17) (i := 0) dX12_parityOf_17 rfl rfl ?_
    refine r_getfr (pc := 18) (b := 283) cks dX12_parityOf_18 fl_X12_37 rfl (kM274 hT) (ltM hT (by omega)) (rM11 hT) ?_
    refine r_iload_n (pc := 21) (i := 1) dX12_parityOf_21 rfl rfl ?_
    refine r_aload_n (pc := 22) (i := 0) dX12_parityOf_22 rfl rfl ?_
    refine r_getfr (pc := 23) (b := 283) cks dX12_parityOf_23 fl_X12_37 rfl (kM274 hT) (ltM hT (by omega)) (rM11 hT) ?_
    refine r_sipush (pc := 26) dX12_parityOf_26 rfl (in32_of rfl) ?_
    refine r_sipush (pc := 29) dX12_parityOf_29 rfl (in32_of rfl) ?_
    refine r_iload_n (pc := 32) (i := 2) dX12_parityOf_32 rfl rfl ?_
    refine r_imulN (pc := 33) (c := ((256 * p : Nat) : Int)) dX12_parityOf_33 (by unfold w32; omega) ?_
    refine r_iaddN (pc := 34) (c := ((256 * p + 1044 : Nat) : Int)) dX12_parityOf_34 (by unfold w32; omega) ?_
    refine r_iload (pc := 35) (i := 6) dX12_parityOf_35 rfl ?_
    refine r_iaddN (pc := 37) (c := ((256 * p + b + k + 1044 : Nat) : Int)) dX12_parityOf_37 (by unfold w32; omega) ?_
    refine r_ild (pc := 38) (256 * p + b + k + 1044) dX12_parityOf_38 (kM283 hT) (ltM hT (by omega)) rfl (by rw [lM283 hT]; omega) ?_
    have ho38 := oP_rd (p := p) (k := b + k) hO (by omega)
    refine r_top (b := N (256 * p + b + k + 1044)) (sr_at _ _ _ _) ?_
    refine r_top (b := (((oP N p (b + k)) : Nat) : Int)) (((congrArg N (by omega)).trans ho38.1)) ?_
    refine r_iaddN (pc := 39) (c := ((y + (oP N p (b + k)) : Nat) : Int)) dX12_parityOf_39 (by unfold w32; omega) ?_
    refine r_ild (pc := 40) (y + (oP N p (b + k))) dX12_parityOf_40 (kM283 hT) (ltM hT (by omega)) rfl (by rw [lM283 hT]; omega) ?_
    refine r_top (b := N (y + (oP N p (b + k)))) (sr_at _ _ _ _) ?_
    refine r_ixor (pc := 41) dX12_parityOf_41 ?_
    refine r_istore (pc := 42) (i := 5) (lv' := [_, _, _, _, _, _, _]) dX12_parityOf_42 (by decide) rfl ?_
    refine r_iincN (pc := 44) (i := 6) (c := ((b + k + 1 : Nat) : Int)) (lv' := [_, _, _, _, _, _, _]) dX12_parityOf_44 rfl (by decide) (by unfold w32; omega) rfl ?_
    refine r_goto (pc := 47) (tgt := 6) dX12_parityOf_47 rfl ?_
    exact Ev.re (by rw [parO_succ]; rfl) rfl (ih (k + 1) (by omega) (by omega))
theorem c_isUnlike {p b m : Nat} (hT : ShM T) (hd : 1 ≤ d) (hO : Oin N) (hp : p < 6) (hb : b + m ≤ 256) (hq : Q (some (aI (bi (¬ parO N 276 p b m = parO N 532 p b m)))) T (sr I 283 N)) : EvE G mX12_isUnlike d [aR 274, aI ((p : Nat) : Int), aI ((b : Nat) : Int), aI ((m : Nat) : Int)] T (sr I 283 N) Q := by
  refine EvE.mk (lv0 := [some (aR 274), some (aI ((p : Nat) : Int)), some (aI ((b : Nat) : Int)), some (aI ((m : Nat) : Int))]) (Nat.le_of_ble_eq_true rfl) (by decide +kernel) rfl ?_
  refine r_aload_n (pc := 0) (i := 0) dX12_isUnlike_0 rfl rfl ?_
  refine r_sipush (pc := 1) dX12_isUnlike_1 rfl (in32_of rfl) ?_
  refine r_iload_n (pc := 4) (i := 1) dX12_isUnlike_4 rfl rfl ?_
  refine r_iload_n (pc := 5) (i := 2) dX12_isUnlike_5 rfl rfl ?_
  refine r_iload_n (pc := 6) (i := 3) dX12_isUnlike_6 rfl rfl ?_
  refine r_callV1 (pc := 7) (d - 1) [aI 276, aI ((p : Nat) : Int), aI ((b : Nat) : Int), aI ((m : Nat) : Int)] dX12_isUnlike_7 (CV.mk2 mk_X12_parityOf lk_X12_161) (RC.of (ltM hT (by omega)) (kM274 hT) (by decide) rfl) rfl rfl (by omega) (Nat.le_of_ble_eq_true rfl) (Nat.le_of_ble_eq_true rfl) (c_parityOf (y := 276) (p := p) (b := b) (m := m) hT hO (by omega) (by omega) (by omega) ?_)
  refine ⟨_, rfl, fun _ => ?_⟩
  refine r_aload_n (pc := 10) (i := 0) dX12_isUnlike_10 rfl rfl ?_
  refine r_sipush (pc := 11) dX12_isUnlike_11 rfl (in32_of rfl) ?_
  refine r_iload_n (pc := 14) (i := 1) dX12_isUnlike_14 rfl rfl ?_
  refine r_iload_n (pc := 15) (i := 2) dX12_isUnlike_15 rfl rfl ?_
  refine r_iload_n (pc := 16) (i := 3) dX12_isUnlike_16 rfl rfl ?_
  refine r_callV1 (pc := 17) (d - 1) [aI 532, aI ((p : Nat) : Int), aI ((b : Nat) : Int), aI ((m : Nat) : Int)] dX12_isUnlike_17 (CV.mk2 mk_X12_parityOf lk_X12_161) (RC.of (ltM hT (by omega)) (kM274 hT) (by decide) rfl) rfl rfl (by omega) (Nat.le_of_ble_eq_true rfl) (Nat.le_of_ble_eq_true rfl) (c_parityOf (y := 532) (p := p) (b := b) (m := m) hT hO (by omega) (by omega) (by omega) ?_)
  refine ⟨_, rfl, fun _ => ?_⟩
  refine r_icmp_eq (pc := 20) (tgt := 27) dX12_isUnlike_20 rfl (fun c20 => ?_) (fun c20 => ?_)
  · refine r_iconst (pc := 27) dX12_isUnlike_27 (in32_of rfl) ?_
    exact r_iret (pc := 28) dX12_isUnlike_28 (Or.inl rfl) (by rw [bi_f (not_not_intro c20)] at hq; exact hq)
  · refine r_iconst (pc := 23) dX12_isUnlike_23 (in32_of rfl) ?_
    refine r_goto (pc := 24) (tgt := 28) dX12_isUnlike_24 rfl ?_
    exact r_iret (pc := 28) dX12_isUnlike_28 (Or.inr rfl) (by rw [bi_t (c20)] at hq; exact hq)
theorem c_parityByRow {n y r i : Nat} (hT : ShM T) (hn : N 1 = (n : Int)) (hn2 : n ≤ 256) (hy : y ≤ 600) (hr : r + i ≤ 10000) (hq : Q (some (aI (parR N y r i n))) T (sr I 283 N)) : EvE G mX12_parityByRow d [aR 274, aI ((y : Nat) : Int), aI ((r : Nat) : Int), aI ((i : Nat) : Int)] T (sr I 283 N) Q := by
  refine EvE.mk (lv0 := [some (aR 274), some (aI ((y : Nat) : Int)), some (aI ((r : Nat) : Int)), some (aI ((i : Nat) : Int)), none, none]) (Nat.le_of_ble_eq_true rfl) (by decide +kernel) rfl ?_
  refine r_iconst (pc := 0) dX12_parityByRow_0 (in32_of rfl) ?_
  refine r_istore (pc := 1) (i := 4) (lv' := [_, _, _, _, _, _]) dX12_parityByRow_1 (by decide) rfl ?_
  refine r_iconst (pc := 3) dX12_parityByRow_3 (in32_of rfl) ?_
  refine r_istore (pc := 4) (i := 5) (lv' := [_, _, _, _, _, _]) dX12_parityByRow_4 (by decide) rfl ?_
  refine loop1 (fun (k : Nat) => k ≤ n) (fun (k : Nat) => n - k) (fun (k : Nat) => [some (aR 274), some (aI ((y : Nat) : Int)), some (aI ((r : Nat) : Int)), some (aI ((i : Nat) : Int)), some (aI (parR N y r i k)), some (aI ((k : Nat) : Int))]) (fun _ => T) (fun (k : Nat) => sr I 283 N) ?_ 0 (Nat.zero_le _)
  intro k hP ih
  have hP : k ≤ n := hP
  refine (?_ : Ev G mX12_parityByRow d 6 [some (aR 274), some (aI ((y : Nat) : Int)), some (aI ((r : Nat) : Int)), some (aI ((i : Nat) : Int)), some (aI (parR N y r i k)), some (aI ((k : Nat) : Int))] [] T (sr I 283 N) Q)
  refine r_iload (pc := 6) (i := 5) dX12_parityByRow_6 rfl ?_
  refine r_aload_n (pc := 8) (i := 0) dX12_parityByRow_8 rfl rfl ?_
  refine r_getfr (pc := 9) (b := 283) cks dX12_parityByRow_9 fl_X12_37 rfl (kM274 hT) (ltM hT (by omega)) (rM11 hT) ?_
  refine r_iconst (pc := 12) dX12_parityByRow_12 (in32_of rfl) ?_
  refine r_ild (pc := 13) (1) dX12_parityByRow_13 (kM283 hT) (ltM hT (by omega)) (by omega) (by rw [lM283 hT]; omega) ?_
  refine r_top (b := N 1) (sr_at _ _ _ _) ?_
  refine r_top (b := ((n : Nat) : Int)) (hn) ?_
  refine r_icmp_ge (pc := 14) (tgt := 49) dX12_parityByRow_14 rfl (fun c14 => ?_) (fun c14 => ?_)
  · refine r_iload (pc := 49) (i := 4) dX12_parityByRow_49 rfl ?_
    exact r_iret (pc := 51) dX12_parityByRow_51 trivial (by rw [show n = k by omega] at hq; exact hq)
  · refine r_iload (pc := 17) (i := 4) dX12_parityByRow_17 rfl ?_
    refine r_aload_n (pc := 19) (i := 0) dX12_parityByRow_19 rfl rfl ?_
    refine r_getfr (pc := 20) (b := 283) cks dX12_parityByRow_20 fl_X12_37 rfl (kM274 hT) (ltM hT (by omega)) (rM11 hT) ?_
    refine r_iload_n (pc := 23) (i := 1) dX12_parityByRow_23 rfl rfl ?_
    refine r_iload (pc := 24) (i := 5) dX12_parityByRow_24 rfl ?_
    refine r_iaddN (pc := 26) (c := ((y + k : Nat) : Int)) dX12_parityByRow_26 (by unfold w32; omega) ?_
    refine r_ild (pc := 27) (y + k) dX12_parityByRow_27 (kM283 hT) (ltM hT (by omega)) rfl (by rw [lM283 hT]; omega) ?_
    refine r_top (b := N (y + k)) (sr_at _ _ _ _) ?_
    refine r_aload_n (pc := 28) (i := 0) dX12_parityByRow_28 rfl rfl ?_
    refine r_getfr (pc := 29) (b := 283) cks dX12_parityByRow_29 fl_X12_37 rfl (kM274 hT) (ltM hT (by omega)) (rM11 hT) ?_
    refine r_iload_n (pc := 32) (i := 2) dX12_parityByRow_32 rfl rfl ?_
    refine r_iload_n (pc := 33) (i := 3) dX12_parityByRow_33 rfl rfl ?_
    refine r_iaddN (pc := 34) (c := ((r + i : Nat) : Int)) dX12_parityByRow_34 (by unfold w32; omega) ?_
    refine r_iload (pc := 35) (i := 5) dX12_parityByRow_35 rfl ?_
    refine r_iaddN (pc := 37) (c := ((r + i + k : Nat) : Int)) dX12_parityByRow_37 (by unfold w32; omega) ?_
    refine r_ild (pc := 38) (r + i + k) dX12_parityByRow_38 (kM283 hT) (ltM hT (by omega)) rfl (by rw [lM283 hT]; omega) ?_
    refine r_top (b := N (r + i + k)) (sr_at _ _ _ _) ?_
    refine r_iand (pc := 39) dX12_parityByRow_39 ?_
    refine r_ixor (pc := 40) dX12_parityByRow_40 ?_
    refine r_istore (pc := 41) (i := 4) (lv' := [_, _, _, _, _, _]) dX12_parityByRow_41 (by decide) rfl ?_
    refine r_iincN (pc := 43) (i := 5) (c := ((k + 1 : Nat) : Int)) (lv' := [_, _, _, _, _, _]) dX12_parityByRow_43 rfl (by decide) (by unfold w32; omega) rfl ?_
    refine r_goto (pc := 46) (tgt := 6) dX12_parityByRow_46 rfl ?_
    exact Ev.re (by rw [parR_succ]) rfl (ih (k + 1) (by omega) (by omega))
def inS (S : Nat → Int) (p : Nat) : Int := ian (isr (S (p / 32)) ((p % 32 : Nat) : Int)) 1
def smS (S : Nat → Int) : Nat → Nat
  | 0 => 0
  | k + 1 => smS S k + if inS S k = 1 then 1 else 0
theorem smS_succ (S : Nat → Int) (k : Nat) : smS S (k + 1) = smS S k + if inS S k = 1 then 1 else 0 := rfl
theorem smS_le (S : Nat → Int) : ∀ k, smS S k ≤ k
  | 0 => Nat.le_refl 0
  | k + 1 => by have := smS_le S k; rw [smS_succ]; split <;> omega
/-- the least place below n that is in the set, from k on; -1 -/
def lsS (S : Nat → Int) (n : Nat) : Nat → Nat → Int
  | 0, _ => -1
  | u + 1, k => if inS S k = 1 then (k : Int) else lsS S n u (k + 1)
theorem lsS_succ (S : Nat → Int) (n u k : Nat) : lsS S n (u + 1) k = if inS S k = 1 then (k : Int) else lsS S n u (k + 1) := rfl
theorem c_isInSet {p : Nat} (hT : ShM T) (hp : p < 256) (hq : Q (some (aI (bi (inS (I 288) p = 1)))) T I) : EvE G mX12_isInSet d [aR 274, aI ((p : Nat) : Int)] T I Q := by
  refine EvE.mk (lv0 := [some (aR 274), some (aI ((p : Nat) : Int))]) (Nat.le_of_ble_eq_true rfl) (by decide +kernel) rfl ?_
  refine r_aload_n (pc := 0) (i := 0) dX12_isInSet_0 rfl rfl ?_
  refine r_getfr (pc := 1) (b := 288) cks dX12_isInSet_1 fl_X12_58 rfl (kM274 hT) (ltM hT (by omega)) (rM20 hT) ?_
  refine r_iload_n (pc := 4) (i := 1) dX12_isInSet_4 rfl rfl ?_
  refine r_bipush (pc := 5) dX12_isInSet_5 rfl (in32_of rfl) ?_
  refine r_idiv (pc := 7) dX12_isInSet_7 (by omega) ?_
  refine r_top (b := (((p / 32) : Nat) : Int)) (by rw [idv_n (by unfold in32; omega) (by unfold in32; omega) (by omega) (by omega)]; omega) ?_
  refine r_ild (pc := 8) ((p / 32)) dX12_isInSet_8 (kM288 hT) (ltM hT (by omega)) rfl (by rw [lM288 hT]; omega) ?_
  refine r_iload_n (pc := 9) (i := 1) dX12_isInSet_9 rfl rfl ?_
  refine r_bipush (pc := 10) dX12_isInSet_10 rfl (in32_of rfl) ?_
  refine r_irem (pc := 12) dX12_isInSet_12 (by omega) ?_
  refine r_top (b := (((p % 32) : Nat) : Int)) (by rw [irm_n (by unfold in32; omega) (by unfold in32; omega) (by omega) (by omega)]; omega) ?_
  refine r_ishr (pc := 13) dX12_isInSet_13 ?_
  refine r_iconst (pc := 14) dX12_isInSet_14 (in32_of rfl) ?_
  refine r_iand (pc := 15) dX12_isInSet_15 ?_
  refine r_iconst (pc := 16) dX12_isInSet_16 (in32_of rfl) ?_
  refine r_icmp_ne (pc := 17) (tgt := 24) dX12_isInSet_17 rfl (fun c17 => ?_) (fun c17 => ?_)
  · refine r_iconst (pc := 24) dX12_isInSet_24 (in32_of rfl) ?_
    exact r_iret (pc := 25) dX12_isInSet_25 (Or.inl rfl) (by rw [show bi (inS (I 288) p = 1) = 0 from bi_f (c17)] at hq; exact hq)
  · have c17 := Decidable.of_not_not c17
    refine r_iconst (pc := 20) dX12_isInSet_20 (in32_of rfl) ?_
    refine r_goto (pc := 21) (tgt := 25) dX12_isInSet_21 rfl ?_
    exact r_iret (pc := 25) dX12_isInSet_25 (Or.inr rfl) (by rw [show bi (inS (I 288) p = 1) = 1 from bi_t (c17)] at hq; exact hq)
theorem sr288 {I : Mi} {N : Nat → Int} : (sr I 283 N) 288 = I 288 := sr_ne (by decide)
theorem c_setMany {n : Nat} (hT : ShM T) (hd : 1 ≤ d) (hn : N 1 = (n : Int)) (hn2 : n ≤ 256) (hq : Q (some (aI ((smS (I 288) n : Nat) : Int))) T (sr I 283 N)) : EvE G mX12_setMany d [aR 274] T (sr I 283 N) Q := by
  refine EvE.mk (lv0 := [some (aR 274), none, none]) (Nat.le_of_ble_eq_true rfl) (by decide +kernel) rfl ?_
  refine r_iconst (pc := 0) dX12_setMany_0 (in32_of rfl) ?_
  refine r_istore_n (pc := 1) (i := 1) (lv' := [_, _, _]) dX12_setMany_1 rfl (by decide) rfl ?_
  refine r_iconst (pc := 2) dX12_setMany_2 (in32_of rfl) ?_
  refine r_istore_n (pc := 3) (i := 2) (lv' := [_, _, _]) dX12_setMany_3 rfl (by decide) rfl ?_
  refine loop1 (fun (k : Nat) => k ≤ n) (fun (k : Nat) => n - k) (fun (k : Nat) => [some (aR 274), some (aI (((smS (I 288) k) : Nat) : Int)), some (aI ((k : Nat) : Int))]) (fun _ => T) (fun (k : Nat) => sr I 283 N) ?_ 0 (Nat.zero_le _)
  intro k hP ih
  have hP : k ≤ n := hP
  have := smS_le (I 288) k
  refine (?_ : Ev G mX12_setMany d 4 [some (aR 274), some (aI (((smS (I 288) k) : Nat) : Int)), some (aI ((k : Nat) : Int))] [] T (sr I 283 N) Q)
  refine r_iload_n (pc := 4) (i := 2) dX12_setMany_4 rfl rfl ?_
  refine r_aload_n (pc := 5) (i := 0) dX12_setMany_5 rfl rfl ?_
  refine r_getfr (pc := 6) (b := 283) cks dX12_setMany_6 fl_X12_37 rfl (kM274 hT) (ltM hT (by omega)) (rM11 hT) ?_
  refine r_iconst (pc := 9) dX12_setMany_9 (in32_of rfl) ?_
  refine r_ild (pc := 10) (1) dX12_setMany_10 (kM283 hT) (ltM hT (by omega)) (by omega) (by rw [lM283 hT]; omega) ?_
  refine r_top (b := N 1) (sr_at _ _ _ _) ?_
  refine r_top (b := ((n : Nat) : Int)) (hn) ?_
  refine r_icmp_ge (pc := 11) (tgt := 36) dX12_setMany_11 rfl (fun c11 => ?_) (fun c11 => ?_)
  · refine r_iload_n (pc := 36) (i := 1) dX12_setMany_36 rfl rfl ?_
    exact r_iret (pc := 37) dX12_setMany_37 trivial (by rw [show n = k by omega] at hq; exact hq)
  · refine r_iload_n (pc := 14) (i := 1) dX12_setMany_14 rfl rfl ?_
    refine r_aload_n (pc := 15) (i := 0) dX12_setMany_15 rfl rfl ?_
    refine r_iload_n (pc := 16) (i := 2) dX12_setMany_16 rfl rfl ?_
    refine r_callV1 (pc := 17) (d - 1) [aI ((k : Nat) : Int)] dX12_setMany_17 (CV.mk2 mk_X12_isInSet lk_X12_260) (RC.of (ltM hT (by omega)) (kM274 hT) (by decide) rfl) rfl rfl (by omega) (Nat.le_of_ble_eq_true rfl) (Nat.le_of_ble_eq_true rfl) (c_isInSet (p := k) hT (by omega) ?_)
    refine ⟨_, rfl, fun _ => ?_⟩
    refine r_if_eq (pc := 20) (tgt := 27) dX12_setMany_20 rfl (fun c20 => ?_) (fun c20 => ?_)
    · have c20 := bi_if.mp c20
      rw [sr288] at c20
      refine r_iconst (pc := 27) dX12_setMany_27 (in32_of rfl) ?_
      refine r_iaddN (pc := 28) (c := (((smS (I 288) k) : Nat) : Int)) dX12_setMany_28 (by unfold w32; omega) ?_
      refine r_istore_n (pc := 29) (i := 1) (lv' := [_, _, _]) dX12_setMany_29 rfl (by decide) rfl ?_
      refine r_iincN (pc := 30) (i := 2) (c := ((k + 1 : Nat) : Int)) (lv' := [_, _, _]) dX12_setMany_30 rfl (by decide) (by unfold w32; omega) rfl ?_
      refine r_goto (pc := 33) (tgt := 4) dX12_setMany_33 rfl ?_
      exact Ev.re (by rw [smS_succ]; first | rw [if_pos c20] | rw [if_neg c20]; first | rfl | simp) rfl (ih (k + 1) (by omega) (by omega))
    · have c20 := bi_1 c20
      rw [sr288] at c20
      refine r_iconst (pc := 23) dX12_setMany_23 (in32_of rfl) ?_
      refine r_goto (pc := 24) (tgt := 28) dX12_setMany_24 rfl ?_
      refine r_iaddN (pc := 28) (c := (((smS (I 288) k) + 1 : Nat) : Int)) dX12_setMany_28 (by unfold w32; omega) ?_
      refine r_istore_n (pc := 29) (i := 1) (lv' := [_, _, _]) dX12_setMany_29 rfl (by decide) rfl ?_
      refine r_iincN (pc := 30) (i := 2) (c := ((k + 1 : Nat) : Int)) (lv' := [_, _, _]) dX12_setMany_30 rfl (by decide) (by unfold w32; omega) rfl ?_
      refine r_goto (pc := 33) (tgt := 4) dX12_setMany_33 rfl ?_
      exact Ev.re (by rw [smS_succ]; first | rw [if_pos c20] | rw [if_neg c20]; first | rfl | simp) rfl (ih (k + 1) (by omega) (by omega))
theorem c_leastInSet {n : Nat} (hT : ShM T) (hd : 1 ≤ d) (hn : N 1 = (n : Int)) (hn2 : n ≤ 256) (hq : Q (some (aI (lsS (I 288) n n 0))) T (sr I 283 N)) : EvE G mX12_leastInSet d [aR 274] T (sr I 283 N) Q := by
  refine EvE.mk (lv0 := [some (aR 274), none]) (Nat.le_of_ble_eq_true rfl) (by decide +kernel) rfl ?_
  refine r_iconst (pc := 0) dX12_leastInSet_0 (in32_of rfl) ?_
  refine r_istore_n (pc := 1) (i := 1) (lv' := [_, _]) dX12_leastInSet_1 rfl (by decide) rfl ?_
  refine loop1 (fun (k : Nat) => k ≤ n ∧ lsS (I 288) n n 0 = lsS (I 288) n (n - k) k) (fun (k : Nat) => n - k) (fun (k : Nat) => [some (aR 274), some (aI ((k : Nat) : Int))]) (fun _ => T) (fun (k : Nat) => sr I 283 N) ?_ 0 ⟨Nat.zero_le _, rfl⟩
  intro k hP ih
  have hP : k ≤ n ∧ lsS (I 288) n n 0 = lsS (I 288) n (n - k) k := hP
  refine (?_ : Ev G mX12_leastInSet d 2 [some (aR 274), some (aI ((k : Nat) : Int))] [] T (sr I 283 N) Q)
  refine r_iload_n (pc := 2) (i := 1) dX12_leastInSet_2 rfl rfl ?_
  refine r_aload_n (pc := 3) (i := 0) dX12_leastInSet_3 rfl rfl ?_
  refine r_getfr (pc := 4) (b := 283) cks dX12_leastInSet_4 fl_X12_37 rfl (kM274 hT) (ltM hT (by omega)) (rM11 hT) ?_
  refine r_iconst (pc := 7) dX12_leastInSet_7 (in32_of rfl) ?_
  refine r_ild (pc := 8) (1) dX12_leastInSet_8 (kM283 hT) (ltM hT (by omega)) (by omega) (by rw [lM283 hT]; omega) ?_
  refine r_top (b := N 1) (sr_at _ _ _ _) ?_
  refine r_top (b := ((n : Nat) : Int)) (hn) ?_
  refine r_icmp_ge (pc := 9) (tgt := 28) dX12_leastInSet_9 rfl (fun c9 => ?_) (fun c9 => ?_)
  · refine r_iconst (pc := 28) dX12_leastInSet_28 (in32_of rfl) ?_
    exact r_iret (pc := 29) dX12_leastInSet_29 trivial (by rw [hP.2, show n - k = 0 by omega, show lsS (I 288) n 0 k = -1 from rfl] at hq; exact hq)
  · refine r_aload_n (pc := 12) (i := 0) dX12_leastInSet_12 rfl rfl ?_
    refine r_iload_n (pc := 13) (i := 1) dX12_leastInSet_13 rfl rfl ?_
    refine r_callV1 (pc := 14) (d - 1) [aI ((k : Nat) : Int)] dX12_leastInSet_14 (CV.mk2 mk_X12_isInSet lk_X12_260) (RC.of (ltM hT (by omega)) (kM274 hT) (by decide) rfl) rfl rfl (by omega) (Nat.le_of_ble_eq_true rfl) (Nat.le_of_ble_eq_true rfl) (c_isInSet (p := k) hT (by omega) ?_)
    refine ⟨_, rfl, fun _ => ?_⟩
    refine r_if_eq (pc := 17) (tgt := 22) dX12_leastInSet_17 rfl (fun c17 => ?_) (fun c17 => ?_)
    · have c17 := bi_if.mp c17
      rw [sr288] at c17
      refine r_iincN (pc := 22) (i := 1) (c := ((k + 1 : Nat) : Int)) (lv' := [_, _]) dX12_leastInSet_22 rfl (by decide) (by unfold w32; omega) rfl ?_
      refine r_goto (pc := 25) (tgt := 2) dX12_leastInSet_25 rfl ?_
      exact ih (k + 1) ⟨by omega, by rw [hP.2, show n - k = (n - (k + 1)) + 1 by omega, lsS_succ, if_neg c17]⟩ (by omega)
    · have c17 := bi_1 c17
      rw [sr288] at c17
      refine r_iload_n (pc := 20) (i := 1) dX12_leastInSet_20 rfl rfl ?_
      exact r_iret (pc := 21) dX12_leastInSet_21 trivial (by rw [hP.2, show n - k = (n - (k + 1)) + 1 by omega, lsS_succ, if_pos c17] at hq; exact hq)
def Fin_ (N : Nat → Int) : Prop := ∀ j, 788 ≤ j → j < 1044 → 0 ≤ N j ∧ N j < 256
def spS (N : Nat → Int) (p : Nat) : Prop := ofS N (N (p + 788)) 4 = 1 ∧ ofS N (N (p + 788)) 5 = ofS N (N (p + 788)) 1
def spI (N : Nat → Int) (p : Int) : Int := bi (ofS N (N (p.toNat + 788)) 4 = 1 ∧ ofS N (N (p.toNat + 788)) 5 = ofS N (N (p.toNat + 788)) 1)
theorem spI_01 (N : Nat → Int) (p : Int) : spI N p = 0 ∨ spI N p = 1 := bi_01 _
def spM (N : Nat → Int) : Nat → Nat
  | 0 => 0
  | k + 1 => spM N k + (spI N k).toNat
theorem spM_succ (N : Nat → Int) (k : Nat) : spM N (k + 1) = spM N k + (spI N k).toNat := rfl
theorem spM_le (N : Nat → Int) : ∀ k, spM N k ≤ k
  | 0 => Nat.le_refl 0
  | k + 1 => by have := spM_le N k; have := spI_01 N k; rw [spM_succ]; omega
def spiA (N : Nat → Int) (n : Nat) (p : Int) : Int := if p = -1 then (spM N n : Int) else if 0 ≤ p ∧ p < n then spI N p else -1
def ssM (N : Nat → Int) : Nat → Int
  | 0 => 0
  | k + 1 => w32 (ssM N k + ofS N k 4)
theorem c_isSpied {p : Int} (hT : ShM T) (hd : 1 ≤ d) (hF : Fin_ N) (hp0 : 0 ≤ p) (hp : p < 256) (hq : Q (some (aI (spI N p))) T (sr I 283 N)) : EvE G mX12_isSpied d [aR 274, aI p] T (sr I 283 N) Q := by
  have hf := hF (p.toNat + 788) (by omega) (by omega)
  refine EvE.mk (lv0 := [some (aR 274), some (aI p), none]) (Nat.le_of_ble_eq_true rfl) (by decide +kernel) rfl ?_
  refine r_aload_n (pc := 0) (i := 0) dX12_isSpied_0 rfl rfl ?_
  refine r_getfr (pc := 1) (b := 283) cks dX12_isSpied_1 fl_X12_37 rfl (kM274 hT) (ltM hT (by omega)) (rM11 hT) ?_
  refine r_sipush (pc := 4) dX12_isSpied_4 rfl (in32_of rfl) ?_
  refine r_iload_n (pc := 7) (i := 1) dX12_isSpied_7 rfl rfl ?_
  refine r_iaddN (pc := 8) (c := (p + 788)) dX12_isSpied_8 (by unfold w32; omega) ?_
  refine r_ild (pc := 9) ((p.toNat + 788)) dX12_isSpied_9 (kM283 hT) (ltM hT (by omega)) (by omega) (by rw [lM283 hT]; omega) ?_
  refine r_top (b := N (p.toNat + 788)) (sr_at _ _ _ _) ?_
  refine r_istore_n (pc := 10) (i := 2) (lv' := [_, _, _]) dX12_isSpied_10 rfl (by decide) rfl ?_
  refine r_aload_n (pc := 11) (i := 0) dX12_isSpied_11 rfl rfl ?_
  refine r_iload_n (pc := 12) (i := 2) dX12_isSpied_12 rfl rfl ?_
  refine r_iconst (pc := 13) dX12_isSpied_13 (in32_of rfl) ?_
  refine r_callV1 (pc := 14) (d - 1) [aI (N (p.toNat + 788)), aI 4] dX12_isSpied_14 (CV.mk2 mk_X12_ofSignal lk_X12_138) (RC.of (ltM hT (by omega)) (kM274 hT) (by decide) rfl) rfl rfl (by omega) (Nat.le_of_ble_eq_true rfl) (Nat.le_of_ble_eq_true rfl) (c_ofSignal hT (by omega) (by omega) ?_)
  refine ⟨_, rfl, fun _ => ?_⟩
  refine r_iconst (pc := 17) dX12_isSpied_17 (in32_of rfl) ?_
  refine r_icmp_ne (pc := 18) (tgt := 40) dX12_isSpied_18 rfl (fun c18 => ?_) (fun c18 => ?_)
  · refine r_iconst (pc := 40) dX12_isSpied_40 (in32_of rfl) ?_
    exact r_iret (pc := 41) dX12_isSpied_41 (Or.inl rfl) (by rw [show spI N p = 0 from bi_f (by first | exact fun h => c18 h.1 | exact fun h => c33 h.2)] at hq; exact hq)
  · have c18 := Decidable.of_not_not c18
    refine r_aload_n (pc := 21) (i := 0) dX12_isSpied_21 rfl rfl ?_
    refine r_iload_n (pc := 22) (i := 2) dX12_isSpied_22 rfl rfl ?_
    refine r_iconst (pc := 23) dX12_isSpied_23 (in32_of rfl) ?_
    refine r_callV1 (pc := 24) (d - 1) [aI (N (p.toNat + 788)), aI 5] dX12_isSpied_24 (CV.mk2 mk_X12_ofSignal lk_X12_138) (RC.of (ltM hT (by omega)) (kM274 hT) (by decide) rfl) rfl rfl (by omega) (Nat.le_of_ble_eq_true rfl) (Nat.le_of_ble_eq_true rfl) (c_ofSignal hT (by omega) (by omega) ?_)
    refine ⟨_, rfl, fun _ => ?_⟩
    refine r_aload_n (pc := 27) (i := 0) dX12_isSpied_27 rfl rfl ?_
    refine r_iload_n (pc := 28) (i := 2) dX12_isSpied_28 rfl rfl ?_
    refine r_iconst (pc := 29) dX12_isSpied_29 (in32_of rfl) ?_
    refine r_callV1 (pc := 30) (d - 1) [aI (N (p.toNat + 788)), aI 1] dX12_isSpied_30 (CV.mk2 mk_X12_ofSignal lk_X12_138) (RC.of (ltM hT (by omega)) (kM274 hT) (by decide) rfl) rfl rfl (by omega) (Nat.le_of_ble_eq_true rfl) (Nat.le_of_ble_eq_true rfl) (c_ofSignal hT (by omega) (by omega) ?_)
    refine ⟨_, rfl, fun _ => ?_⟩
    refine r_icmp_ne (pc := 33) (tgt := 40) dX12_isSpied_33 rfl (fun c33 => ?_) (fun c33 => ?_)
    · refine r_iconst (pc := 40) dX12_isSpied_40 (in32_of rfl) ?_
      exact r_iret (pc := 41) dX12_isSpied_41 (Or.inl rfl) (by rw [show spI N p = 0 from bi_f (by first | exact fun h => c18 h.1 | exact fun h => c33 h.2)] at hq; exact hq)
    · have c33 := Decidable.of_not_not c33
      refine r_iconst (pc := 36) dX12_isSpied_36 (in32_of rfl) ?_
      refine r_goto (pc := 37) (tgt := 41) dX12_isSpied_37 rfl ?_
      exact r_iret (pc := 41) dX12_isSpied_41 (Or.inr rfl) (by rw [show spI N p = 1 from bi_t (⟨c18, c33⟩)] at hq; exact hq)
end M2
