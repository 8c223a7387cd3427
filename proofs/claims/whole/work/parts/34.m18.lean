section M18
variable {G : Gl} {d : Nat} {T : Sh} {I : Mi} {N : Nat → Int} {Q : Option AV → Sh → Mi → Prop}
theorem c_begin  {u : Nat} {P W A H : Nat → Int} (hT : ShM T) (hd : 4 ≤ d) (hR : Rng N) (hw : wOk W) (hu : H 16 = (u : Int)) (hu2 : u ≤ 12) (hg0 : 0 ≤ I 280 0) (hg1 : I 280 0 ≤ 256) (hs0 : 0 ≤ I 280 1) (hs1 : I 280 1 < 2147483648) (hq : Q (some (aI ((nN (bgF (I 280 0) (I 280 3) (I 280 2) (I 280 1) N) : Nat) : Int))) T (sr (sr (sr (sr (sr I 286 P) 285 (kaW W N u)) 284 A) 274 (un H 16 ((kaU u : Nat) : Int))) 283 (bgF (I 280 0) (I 280 3) (I 280 2) (I 280 1) N))) : EvE G mX12_begin d [aR 274] T (sr (sr (sr (sr (sr I 286 P) 285 W) 284 A) 274 H) 283 N) Q := by
  refine EvE.mk (lv0 := [some (aR 274)]) (Nat.le_of_ble_eq_true rfl) (by decide +kernel) rfl ?_
  refine r_aload_n (pc := 0) (i := 0) dX12_begin_0 rfl rfl ?_
  refine r_callV0 (pc := 1) (d - 1) [] dX12_begin_1 (CV.mk2 mk_X12_keepsAct lk_X12_149) (RC.of (ltM hT (by omega)) (kM274 hT) (by decide) rfl) rfl rfl (by omega) (Nat.le_of_ble_eq_true rfl) (Nat.le_of_ble_eq_true rfl) (c_keepsAct (u := u) (P := P) (W := W) (A := A) (H := H) (N := N) hT (by omega) hR hw hu hu2 ?_)
  refine ⟨rfl, fun _ => ?_⟩
  refine r_aload_n (pc := 4) (i := 0) dX12_begin_4 rfl rfl ?_
  refine r_aload_n (pc := 5) (i := 0) dX12_begin_5 rfl rfl ?_
  refine r_getfr (pc := 6) (b := 280) cks dX12_begin_6 fl_X12_27 rfl (kM274 hT) (ltM hT (by omega)) (rM6 hT) ?_
  refine r_iconst (pc := 9) dX12_begin_9 (in32_of rfl) ?_
  refine r_ild (pc := 10) (1) dX12_begin_10 (kM280 hT) (ltM hT (by omega)) (by omega) (by rw [lM280 hT]; omega) ?_
  refine r_top (b := I 280 1) ((congrFun (sr_ne (by decide)) _).trans ((congrFun (sr_ne (by decide)) _).trans ((congrFun (sr_ne (by decide)) _).trans ((congrFun (sr_ne (by decide)) _).trans ((congrFun (sr_ne (by decide)) _).trans (rfl)))))) ?_
  refine r_callV1 (pc := 11) (d - 1) [aI (I 280 1)] dX12_begin_11 (CV.mk2 mk_X12_beginsBy lk_X12_152) (RC.of (ltM hT (by omega)) (kM274 hT) (by decide) rfl) rfl rfl (by omega) (Nat.le_of_ble_eq_true rfl) (Nat.le_of_ble_eq_true rfl) (c_beginsBy (seed := I 280 1) (I := (sr (sr (sr (sr I 286 P) 285 (kaW W N u)) 284 A) 274 (un H 16 ((kaU u : Nat) : Int)))) (N := N) hT (by omega) hg0 hg1 hs0 hs1 ?_)
  refine ⟨_, rfl, fun _ => ?_⟩
  exact r_iret (pc := 14) dX12_begin_14 trivial hq
def lenS (N : Nat → Int) (n t : Nat) (sf : Int) : Int := (n : Int) - (t : Int) - 2 * N 5 * (n : Int) / 1000 - sf
theorem parR_01 {N : Nat → Int} {y r i : Nat} (hR : Rng N) (hy : y = 276 ∨ y = 532) (hr : 2580 ≤ r + i) : ∀ m, m ≤ 256 → r + i + m ≤ 3902 → parR N y r i m = 0 ∨ parR N y r i m = 1 := by
  intro m
  induction m with
  | zero => intro _ _; exact Or.inl rfl
  | succ m ih =>
    intro h1 h2
    have a := Rng_key (j := y + m) hR (by omega) (by omega)
    have b := Rng_row (j := r + i + m) hR (by omega) (by omega)
    have c : ian (N (y + m)) (N (r + i + m)) = 0 ∨ ian (N (y + m)) (N (r + i + m)) = 1 := by
      rcases a with a | a <;> rcases b with b | b <;> rw [a, b] <;> decide +kernel
    rw [parR_succ]
    exact ixo_01 (ih (by omega) (by omega)) c
def laT (M : Nat → Int) (n i : Nat) : Nat → Int := un (un M (i + 3390) (parR M 276 2870 i n)) (i + 3646) (parR (un M (i + 3390) (parR M 276 2870 i n)) 532 2870 i n)
def laS (M : Nat → Int) (n : Nat) : Nat → (Nat → Int)
  | 0 => M
  | i + 1 => laT (laS M n i) n i
theorem laS_succ (M : Nat → Int) (n i : Nat) : laS M n (i + 1) = laT (laS M n i) n i := rfl
theorem laS_ok {M : Nat → Int} {n : Nat} (hR : Rng M) (hn : n ≤ 256) : ∀ i, i ≤ 256 → Rng (laS M n i) ∧ ∀ q, ¬ (3390 ≤ q ∧ q < 3902) → laS M n i q = M q := by
  intro i
  induction i with
  | zero => intro _; exact ⟨hR, fun _ _ => rfl⟩
  | succ i ih =>
    intro hi
    obtain ⟨a, b⟩ := ih (by omega)
    have h1 := parR_01 (y := 276) (r := 2870) (i := i) a (Or.inl rfl) (by omega) n hn (by omega)
    have a1 := Rng_unR (k := i + 3390) a (by omega) (by omega) h1
    have h2 := parR_01 (y := 532) (r := 2870) (i := i) a1 (Or.inr rfl) (by omega) n hn (by omega)
    rw [laS_succ]
    refine ⟨Rng_unR a1 (by omega) (by omega) h2, fun q hq => ?_⟩
    unfold laT
    rw [un_ne (by omega), un_ne (by omega)]
    exact b q hq
def shZ (N : Nat → Int) (n L : Nat) : Nat → Int := un (un (laS (rwS N 2870 (n + L - 1)) n L) 6 (L : Int)) 0 5
theorem c_shortens {n : Nat} (hT : ShM T) (hd : 2 ≤ d) (hn : N 1 = (n : Int)) (hn2 : n ≤ 256) (hR : Rng N) (hb : 0 ≤ N 5) (hf0 : 0 ≤ I 280 8) (hf1 : I 280 8 ≤ 50) (hq0 : lenS N n (tN N) (I 280 8) < 1 → Q (some (aI 0)) T (sr I 283 (un N 0 6))) (hq1 : ∀ L : Nat, lenS N n (tN N) (I 280 8) = (L : Int) → 1 ≤ L → Q (some (aI (L : Int))) T (sr I 283 (shZ N n L))) : EvE G mX12_shortens d [aR 274] T (sr I 283 N) Q := by
  have h5 := ok_5.mp (hR 5)
  have ht3 := ok_3.mp (hR 3)
  have ht4 := tN_rd hR
  have hm1 : 0 ≤ 2 * N 5 * (n : Int) := Int.mul_nonneg (by omega) (by omega)
  have hm2 : 2 * N 5 * (n : Int) ≤ 1000 * 256 := Int.mul_le_mul (by omega) (by omega) (by omega) (by omega)
  refine EvE.mk (lv0 := [some (aR 274), none, none]) (Nat.le_of_ble_eq_true rfl) (by decide +kernel) rfl ?_
  refine r_aload_n (pc := 0) (i := 0) dX12_shortens_0 rfl rfl ?_
  refine r_getfr (pc := 1) (b := 283) cks dX12_shortens_1 fl_X12_37 rfl (kM274 hT) (ltM hT (by omega)) (rM11 hT) ?_
  refine r_iconst (pc := 4) dX12_shortens_4 (in32_of rfl) ?_
  refine r_ild (pc := 5) (1) dX12_shortens_5 (kM283 hT) (ltM hT (by omega)) (by omega) (by rw [lM283 hT]; omega) ?_
  refine r_top (b := N 1) (sr_at _ _ _ _) ?_
  refine r_top (b := ((n : Nat) : Int)) (hn) ?_
  refine r_aload_n (pc := 6) (i := 0) dX12_shortens_6 rfl rfl ?_
  refine r_getfr (pc := 7) (b := 283) cks dX12_shortens_7 fl_X12_37 rfl (kM274 hT) (ltM hT (by omega)) (rM11 hT) ?_
  refine r_iconst (pc := 10) dX12_shortens_10 (in32_of rfl) ?_
  refine r_ild (pc := 11) (3) dX12_shortens_11 (kM283 hT) (ltM hT (by omega)) (by omega) (by rw [lM283 hT]; omega) ?_
  refine r_top (b := N 3) (sr_at _ _ _ _) ?_
  refine r_top (b := (((tN N) : Nat) : Int)) ((tN_rd hR)) ?_
  refine r_isubN (pc := 12) (c := (((n : Nat) : Int) - (((tN N) : Nat) : Int))) dX12_shortens_12 (by unfold w32; omega) ?_
  refine r_iconst (pc := 13) dX12_shortens_13 (in32_of rfl) ?_
  refine r_aload_n (pc := 14) (i := 0) dX12_shortens_14 rfl rfl ?_
  refine r_getfr (pc := 15) (b := 283) cks dX12_shortens_15 fl_X12_37 rfl (kM274 hT) (ltM hT (by omega)) (rM11 hT) ?_
  refine r_iconst (pc := 18) dX12_shortens_18 (in32_of rfl) ?_
  refine r_ild (pc := 19) (5) dX12_shortens_19 (kM283 hT) (ltM hT (by omega)) (by omega) (by rw [lM283 hT]; omega) ?_
  refine r_top (b := N 5) (sr_at _ _ _ _) ?_
  refine r_imulN (pc := 20) (c := (2 * (N 5))) dX12_shortens_20 (by unfold w32; omega) ?_
  refine r_aload_n (pc := 21) (i := 0) dX12_shortens_21 rfl rfl ?_
  refine r_getfr (pc := 22) (b := 283) cks dX12_shortens_22 fl_X12_37 rfl (kM274 hT) (ltM hT (by omega)) (rM11 hT) ?_
  refine r_iconst (pc := 25) dX12_shortens_25 (in32_of rfl) ?_
  refine r_ild (pc := 26) (1) dX12_shortens_26 (kM283 hT) (ltM hT (by omega)) (by omega) (by rw [lM283 hT]; omega) ?_
  refine r_top (b := N 1) (sr_at _ _ _ _) ?_
  refine r_top (b := ((n : Nat) : Int)) (hn) ?_
  refine r_imulN (pc := 27) (c := (2 * N 5 * (n : Int))) dX12_shortens_27 (by unfold w32; omega) ?_
  refine r_sipush (pc := 28) dX12_shortens_28 rfl (in32_of rfl) ?_
  refine r_idiv (pc := 31) dX12_shortens_31 (by omega) ?_
  refine r_top (b := (2 * N 5 * (n : Int) / 1000)) (by rw [idv_n (by unfold in32; omega) (by unfold in32; omega) (by omega) (by omega)]) ?_
  refine r_isubN (pc := 32) (c := (((n : Nat) : Int) - (((tN N) : Nat) : Int) - (2 * N 5 * (n : Int) / 1000))) dX12_shortens_32 (by unfold w32; omega) ?_
  refine r_aload_n (pc := 33) (i := 0) dX12_shortens_33 rfl rfl ?_
  refine r_getfr (pc := 34) (b := 280) cks dX12_shortens_34 fl_X12_27 rfl (kM274 hT) (ltM hT (by omega)) (rM6 hT) ?_
  refine r_bipush (pc := 37) dX12_shortens_37 rfl (in32_of rfl) ?_
  refine r_ild (pc := 39) (8) dX12_shortens_39 (kM280 hT) (ltM hT (by omega)) (by omega) (by rw [lM280 hT]; omega) ?_
  refine r_top (b := I 280 8) ((congrFun (sr_ne (by decide)) _).trans (rfl)) ?_
  refine r_isubN (pc := 40) (c := (lenS N n (tN N) (I 280 8))) dX12_shortens_40 (by unfold lenS w32; omega) ?_
  refine r_istore_n (pc := 41) (i := 1) (lv' := [_, _, _]) dX12_shortens_41 rfl (by decide) rfl ?_
  refine r_iload_n (pc := 42) (i := 1) dX12_shortens_42 rfl rfl ?_
  refine r_iconst (pc := 43) dX12_shortens_43 (in32_of rfl) ?_
  refine r_icmp_ge (pc := 44) (tgt := 57) dX12_shortens_44 rfl (fun c44 => ?_) (fun c44 => ?_)
  · obtain ⟨L, hL⟩ : ∃ L : Nat, lenS N n (tN N) (I 280 8) = (L : Int) := ⟨(lenS N n (tN N) (I 280 8)).toNat, (Int.toNat_of_nonneg (by omega)).symm⟩
    have hL2 : L ≤ 256 := by unfold lenS at hL; omega
    refine Ev.re (lv2 := [some (aR 274), some (aI ((L : Nat) : Int)), none]) (I2 := sr I 283 N) (by rw [hL]) rfl ?_
    refine r_aload_n (pc := 57) (i := 0) dX12_shortens_57 rfl rfl ?_
    refine r_sipush (pc := 58) dX12_shortens_58 rfl (in32_of rfl) ?_
    refine r_aload_n (pc := 61) (i := 0) dX12_shortens_61 rfl rfl ?_
    refine r_getfr (pc := 62) (b := 283) cks dX12_shortens_62 fl_X12_37 rfl (kM274 hT) (ltM hT (by omega)) (rM11 hT) ?_
    refine r_iconst (pc := 65) dX12_shortens_65 (in32_of rfl) ?_
    refine r_ild (pc := 66) (1) dX12_shortens_66 (kM283 hT) (ltM hT (by omega)) (by omega) (by rw [lM283 hT]; omega) ?_
    refine r_top (b := N 1) (sr_at _ _ _ _) ?_
    refine r_top (b := ((n : Nat) : Int)) (hn) ?_
    refine r_iload_n (pc := 67) (i := 1) dX12_shortens_67 rfl rfl ?_
    refine r_iaddN (pc := 68) (c := ((n + L : Nat) : Int)) dX12_shortens_68 (by unfold w32; omega) ?_
    refine r_iconst (pc := 69) dX12_shortens_69 (in32_of rfl) ?_
    refine r_isubN (pc := 70) (c := (((n + L - 1) : Nat) : Int)) dX12_shortens_70 (by unfold w32; omega) ?_
    refine r_callV0 (pc := 71) (d - 1) [aI 2870, aI (((n + L - 1) : Nat) : Int)] dX12_shortens_71 (CV.mk2 mk_X12_drawsRow lk_X12_214) (RC.of (ltM hT (by omega)) (kM274 hT) (by decide) rfl) rfl rfl (by omega) (Nat.le_of_ble_eq_true rfl) (Nat.le_of_ble_eq_true rfl) (c_drawsRow (r := 2870) (m := (n + L - 1)) (N := N) hT (by omega) hR (by omega) (by omega) ?_)
    refine ⟨rfl, fun _ => ?_⟩
    refine r_iconst (pc := 74) dX12_shortens_74 (in32_of rfl) ?_
    refine r_istore_n (pc := 75) (i := 2) (lv' := [_, _, _]) dX12_shortens_75 rfl (by decide) rfl ?_
    refine loop1 (fun (i : Nat) => i ≤ L) (fun (i : Nat) => L - i) (fun (i : Nat) => [some (aR 274), some (aI ((L : Nat) : Int)), some (aI ((i : Nat) : Int))]) (fun _ => T) (fun (i : Nat) => sr I 283 (laS (rwS N 2870 (n + L - 1)) n i)) ?_ 0 (Nat.zero_le _)
    intro i hP ih
    have hP : i ≤ L := hP
    have hrw := rwS_ok (N := N) (r := 2870) hR (by omega) (n + L - 1) (by omega)
    have hRW := hrw.1
    have hla := laS_ok (n := n) hRW hn2 i (by omega)
    have hnl : (laS (rwS N 2870 (n + L - 1)) n i) 1 = (n : Int) := (hla.2 1 (by omega)).trans ((hrw.2 1 (by decide) (by omega)).trans hn)
    refine (?_ : Ev G mX12_shortens d 76 [some (aR 274), some (aI ((L : Nat) : Int)), some (aI ((i : Nat) : Int))] [] T (sr I 283 (laS (rwS N 2870 (n + L - 1)) n i)) Q)
    refine r_iload_n (pc := 76) (i := 2) dX12_shortens_76 rfl rfl ?_
    refine r_iload_n (pc := 77) (i := 1) dX12_shortens_77 rfl rfl ?_
    refine r_icmp_ge (pc := 78) (tgt := 129) dX12_shortens_78 rfl (fun c78 => ?_) (fun c78 => ?_)
    · refine r_aload_n (pc := 129) (i := 0) dX12_shortens_129 rfl rfl ?_
      refine r_getfr (pc := 130) (b := 283) cks dX12_shortens_130 fl_X12_37 rfl (kM274 hT) (ltM hT (by omega)) (rM11 hT) ?_
      refine r_bipush (pc := 133) dX12_shortens_133 rfl (in32_of rfl) ?_
      refine r_iload_n (pc := 135) (i := 1) dX12_shortens_135 rfl rfl ?_
      refine r_ist (pc := 136) (6) dX12_shortens_136 (kM283 hT) (ltM hT (by omega)) (by omega) (by rw [lM283 hT]; omega) ?_
      refine r_mem (I2 := sr I 283 (un (laS (rwS N 2870 (n + L - 1)) n i) 6 ((L : Nat) : Int))) (by rw [up2_sr]) ?_
      refine r_aload_n (pc := 137) (i := 0) dX12_shortens_137 rfl rfl ?_
      refine r_getfr (pc := 138) (b := 283) cks dX12_shortens_138 fl_X12_37 rfl (kM274 hT) (ltM hT (by omega)) (rM11 hT) ?_
      refine r_iconst (pc := 141) dX12_shortens_141 (in32_of rfl) ?_
      refine r_iconst (pc := 142) dX12_shortens_142 (in32_of rfl) ?_
      refine r_ist (pc := 143) (0) dX12_shortens_143 (kM283 hT) (ltM hT (by omega)) (by omega) (by rw [lM283 hT]; omega) ?_
      refine r_mem (I2 := sr I 283 (un (un (laS (rwS N 2870 (n + L - 1)) n i) 6 ((L : Nat) : Int)) 0 5)) (by rw [up2_sr]) ?_
      refine r_iload_n (pc := 144) (i := 1) dX12_shortens_144 rfl rfl ?_
      have hiL : L = i := by omega
      subst hiL
      exact r_iret (pc := 145) dX12_shortens_145 trivial (hq1 L hL (by omega))
    · refine r_aload_n (pc := 81) (i := 0) dX12_shortens_81 rfl rfl ?_
      refine r_getfr (pc := 82) (b := 283) cks dX12_shortens_82 fl_X12_37 rfl (kM274 hT) (ltM hT (by omega)) (rM11 hT) ?_
      refine r_sipush (pc := 85) dX12_shortens_85 rfl (in32_of rfl) ?_
      refine r_iload_n (pc := 88) (i := 2) dX12_shortens_88 rfl rfl ?_
      refine r_iaddN (pc := 89) (c := ((i + 3390 : Nat) : Int)) dX12_shortens_89 (by unfold w32; omega) ?_
      refine r_aload_n (pc := 90) (i := 0) dX12_shortens_90 rfl rfl ?_
      refine r_sipush (pc := 91) dX12_shortens_91 rfl (in32_of rfl) ?_
      refine r_sipush (pc := 94) dX12_shortens_94 rfl (in32_of rfl) ?_
      refine r_iload_n (pc := 97) (i := 2) dX12_shortens_97 rfl rfl ?_
      refine r_callV1 (pc := 98) (d - 1) [aI 276, aI 2870, aI ((i : Nat) : Int)] dX12_shortens_98 (CV.mk2 mk_X12_parityByRow lk_X12_218) (RC.of (ltM hT (by omega)) (kM274 hT) (by decide) rfl) rfl rfl (by omega) (Nat.le_of_ble_eq_true rfl) (Nat.le_of_ble_eq_true rfl) (c_parityByRow (y := 276) (r := 2870) (i := i) (N := laS (rwS N 2870 (n + L - 1)) n i) hT hnl hn2 (by omega) (by omega) ?_)
      refine ⟨_, rfl, fun _ => ?_⟩
      refine r_ist (pc := 101) (i + 3390) dX12_shortens_101 (kM283 hT) (ltM hT (by omega)) rfl (by rw [lM283 hT]; omega) ?_
      refine r_mem (I2 := sr I 283 (un (laS (rwS N 2870 (n + L - 1)) n i) (i + 3390) (parR (laS (rwS N 2870 (n + L - 1)) n i) 276 2870 i n))) (by rw [up2_sr]) ?_
      refine r_aload_n (pc := 102) (i := 0) dX12_shortens_102 rfl rfl ?_
      refine r_getfr (pc := 103) (b := 283) cks dX12_shortens_103 fl_X12_37 rfl (kM274 hT) (ltM hT (by omega)) (rM11 hT) ?_
      refine r_sipush (pc := 106) dX12_shortens_106 rfl (in32_of rfl) ?_
      refine r_iload_n (pc := 109) (i := 2) dX12_shortens_109 rfl rfl ?_
      refine r_iaddN (pc := 110) (c := ((i + 3646 : Nat) : Int)) dX12_shortens_110 (by unfold w32; omega) ?_
      refine r_aload_n (pc := 111) (i := 0) dX12_shortens_111 rfl rfl ?_
      refine r_sipush (pc := 112) dX12_shortens_112 rfl (in32_of rfl) ?_
      refine r_sipush (pc := 115) dX12_shortens_115 rfl (in32_of rfl) ?_
      refine r_iload_n (pc := 118) (i := 2) dX12_shortens_118 rfl rfl ?_
      refine r_callV1 (pc := 119) (d - 1) [aI 532, aI 2870, aI ((i : Nat) : Int)] dX12_shortens_119 (CV.mk2 mk_X12_parityByRow lk_X12_218) (RC.of (ltM hT (by omega)) (kM274 hT) (by decide) rfl) rfl rfl (by omega) (Nat.le_of_ble_eq_true rfl) (Nat.le_of_ble_eq_true rfl) (c_parityByRow (y := 532) (r := 2870) (i := i) (N := un (laS (rwS N 2870 (n + L - 1)) n i) (i + 3390) (parR (laS (rwS N 2870 (n + L - 1)) n i) 276 2870 i n)) hT ((un_ne (by omega)).trans hnl) hn2 (by omega) (by omega) ?_)
      refine ⟨_, rfl, fun _ => ?_⟩
      refine r_ist (pc := 122) (i + 3646) dX12_shortens_122 (kM283 hT) (ltM hT (by omega)) rfl (by rw [lM283 hT]; omega) ?_
      refine r_mem (I2 := sr I 283 (un (un (laS (rwS N 2870 (n + L - 1)) n i) (i + 3390) (parR (laS (rwS N 2870 (n + L - 1)) n i) 276 2870 i n)) (i + 3646) (parR (un (laS (rwS N 2870 (n + L - 1)) n i) (i + 3390) (parR (laS (rwS N 2870 (n + L - 1)) n i) 276 2870 i n)) 532 2870 i n))) (by rw [up2_sr]) ?_
      refine r_iincN (pc := 123) (i := 2) (c := ((i + 1 : Nat) : Int)) (lv' := [_, _, _]) dX12_shortens_123 rfl (by decide) (by unfold w32; omega) rfl ?_
      refine r_goto (pc := 126) (tgt := 76) dX12_shortens_126 rfl ?_
      exact Ev.re rfl (by rw [laS_succ]; rfl) (ih (i + 1) (by omega) (by omega))
  · refine r_aload_n (pc := 47) (i := 0) dX12_shortens_47 rfl rfl ?_
    refine r_getfr (pc := 48) (b := 283) cks dX12_shortens_48 fl_X12_37 rfl (kM274 hT) (ltM hT (by omega)) (rM11 hT) ?_
    refine r_iconst (pc := 51) dX12_shortens_51 (in32_of rfl) ?_
    refine r_bipush (pc := 52) dX12_shortens_52 rfl (in32_of rfl) ?_
    refine r_ist (pc := 54) (0) dX12_shortens_54 (kM283 hT) (ltM hT (by omega)) (by omega) (by rw [lM283 hT]; omega) ?_
    refine r_mem (I2 := sr I 283 (un N 0 6)) (by rw [up2_sr]) ?_
    refine r_iconst (pc := 55) dX12_shortens_55 (in32_of rfl) ?_
    exact r_iret (pc := 56) dX12_shortens_56 trivial (hq0 (by omega))
end M18
