section M12
variable {G : Gl} {d : Nat} {T : Sh} {I : Mi} {N : Nat → Int} {Q : Option AV → Sh → Mi → Prop}
def rwS (N : Nat → Int) (r : Nat) : Nat → (Nat → Int)
  | 0 => N
  | k + 1 => un (dN (rwS N r k)) (r + k) (drV (rwS N r k) 2)
theorem rwS_succ (N : Nat → Int) (r k : Nat) : rwS N r (k + 1) = un (dN (rwS N r k)) (r + k) (drV (rwS N r k) 2) := rfl
theorem Rng_unR {N : Nat → Int} (h : Rng N) {k : Nat} {x : Int} (h0 : 2580 ≤ k) (h1 : k < 3902) (hx : x = 0 ∨ x = 1) : Rng (un N k x) := Rng_un h ((ok_row h0 h1).mpr hx)
theorem rwS_ok {N : Nat → Int} {r : Nat} (hR : Rng N) (hr : 2580 ≤ r) : ∀ m, r + m ≤ 3902 → Rng (rwS N r m) ∧ ∀ j, j ≠ 8 → (j < r ∨ r + m ≤ j) → rwS N r m j = N j := by
  intro m
  induction m with
  | zero => intro _; exact ⟨hR, fun _ _ _ => rfl⟩
  | succ m ih =>
    intro hm
    obtain ⟨a, b⟩ := ih (by omega)
    rw [rwS_succ]
    refine ⟨Rng_unR (Rng_d a) (by omega) (by omega) (drV2 _), fun j h8 hj => ?_⟩
    rw [un_ne (by omega), dN_ne h8]
    exact b j h8 (by omega)
def ckS (N : Nat → Int) (n : Nat) : Nat → (Nat → Int)
  | 0 => N
  | i + 1 => tlF (ckS N n i) 2 (parR (ckS N n i) 276 2580 i n) 0 i 0
theorem ckS_succ (N : Nat → Int) (n i : Nat) : ckS N n (i + 1) = tlF (ckS N n i) 2 (parR (ckS N n i) 276 2580 i n) 0 i 0 := rfl
theorem ckS_ok {N : Nat → Int} {n : Nat} (hR : Rng N) : ∀ h, tN N + h ≤ 13608 → Rng (ckS N n h) ∧ tN (ckS N n h) = tN N + h ∧ ∀ j, j < 3902 → j ≠ 3 → ckS N n h j = N j := by
  intro h
  induction h with
  | zero => intro _; exact ⟨hR, rfl, fun _ _ _ => rfl⟩
  | succ h ih =>
    intro hh
    obtain ⟨a, b, c⟩ := ih (by omega)
    rw [ckS_succ]
    exact ⟨Rng_tl a (by omega), by rw [tl_t, b]; omega, fun j h1 h2 => (tl_ne h2 h1).trans (c j h1 h2)⟩
def isC (N : Nat → Int) (n : Nat) : Nat → Int
  | 0 => 1
  | i + 1 => if isC N n i = 0 then 0 else if parR (ckS N n i) 276 2580 i n = parR (ckS N n (i + 1)) 532 2580 i n then 1 else 0
theorem isC_succ (N : Nat → Int) (n i : Nat) : isC N n (i + 1) = if isC N n i = 0 then 0 else if parR (ckS N n i) 276 2580 i n = parR (ckS N n (i + 1)) 532 2580 i n then 1 else 0 := rfl
theorem isC_01 (N : Nat → Int) (n : Nat) : ∀ i, isC N n i = 0 ∨ isC N n i = 1 := by
  intro i
  cases i with
  | zero => exact Or.inr rfl
  | succ i => rw [isC_succ]; split <;> (try split) <;> simp
def ckF (N : Nat → Int) (n h : Nat) : Nat → Int := un (ckS (rwS N 2580 (n + h - 1)) n h) 0 (if isC (rwS N 2580 (n + h - 1)) n h = 0 then 6 else 4)
theorem c_drawsRow {r m : Nat} (hT : ShM T) (hd : 1 ≤ d) (hR : Rng N) (hr : 2580 ≤ r) (hm : r + m ≤ 3902) (hq : Q none T (sr I 283 (rwS N r m))) : EvE G mX12_drawsRow d [aR 274, aI ((r : Nat) : Int), aI ((m : Nat) : Int)] T (sr I 283 N) Q := by
  refine EvE.mk (lv0 := [some (aR 274), some (aI ((r : Nat) : Int)), some (aI ((m : Nat) : Int)), none]) (Nat.le_of_ble_eq_true rfl) (by decide +kernel) rfl ?_
  refine r_iconst (pc := 0) dX12_drawsRow_0 (in32_of rfl) ?_
  refine r_istore_n (pc := 1) (i := 3) (lv' := [_, _, _, _]) dX12_drawsRow_1 rfl (by decide) rfl ?_
  refine loop1 (fun (k : Nat) => k ≤ m) (fun (k : Nat) => m - k) (fun (k : Nat) => [some (aR 274), some (aI ((r : Nat) : Int)), some (aI ((m : Nat) : Int)), some (aI ((k : Nat) : Int))]) (fun _ => T) (fun (k : Nat) => sr I 283 (rwS N r k)) ?_ 0 (Nat.zero_le _)
  intro k hP ih
  have hP : k ≤ m := hP
  have hRk := (rwS_ok hR hr k (by omega)).1
  refine (?_ : Ev G mX12_drawsRow d 2 [some (aR 274), some (aI ((r : Nat) : Int)), some (aI ((m : Nat) : Int)), some (aI ((k : Nat) : Int))] [] T (sr I 283 (rwS N r k)) Q)
  refine r_iload_n (pc := 2) (i := 3) dX12_drawsRow_2 rfl rfl ?_
  refine r_iload_n (pc := 3) (i := 2) dX12_drawsRow_3 rfl rfl ?_
  refine r_icmp_ge (pc := 4) (tgt := 26) dX12_drawsRow_4 rfl (fun c4 => ?_) (fun c4 => ?_)
  · exact r_vret (pc := 26) dX12_drawsRow_26 trivial (by rw [show m = k by omega] at hq; exact hq)
  · refine r_aload_n (pc := 7) (i := 0) dX12_drawsRow_7 rfl rfl ?_
    refine r_getfr (pc := 8) (b := 283) cks dX12_drawsRow_8 fl_X12_37 rfl (kM274 hT) (ltM hT (by omega)) (rM11 hT) ?_
    refine r_iload_n (pc := 11) (i := 1) dX12_drawsRow_11 rfl rfl ?_
    refine r_iload_n (pc := 12) (i := 3) dX12_drawsRow_12 rfl rfl ?_
    refine r_iaddN (pc := 13) (c := ((r + k : Nat) : Int)) dX12_drawsRow_13 (by unfold w32; omega) ?_
    refine r_aload_n (pc := 14) (i := 0) dX12_drawsRow_14 rfl rfl ?_
    refine r_iconst (pc := 15) dX12_drawsRow_15 (in32_of rfl) ?_
    refine r_callV1 (pc := 16) (d - 1) [aI 2] dX12_drawsRow_16 (CV.mk2 mk_X12_draw lk_X12_135) (RC.of (ltM hT (by omega)) (kM274 hT) (by decide) rfl) rfl rfl (by omega) (Nat.le_of_ble_eq_true rfl) (Nat.le_of_ble_eq_true rfl) (c_drw (k := 2) (N := rwS N r k) hT (Rng_x hRk) (by omega) (by omega) ?_)
    refine ⟨_, rfl, fun _ => ?_⟩
    refine r_ist (pc := 19) (r + k) dX12_drawsRow_19 (kM283 hT) (ltM hT (by omega)) rfl (by rw [lM283 hT]; omega) ?_
    refine r_mem (I2 := sr I 283 (un (dN (rwS N r k)) (r + k) (drV (rwS N r k) 2))) (by rw [up2_sr]) ?_
    refine r_iincN (pc := 20) (i := 3) (c := ((k + 1 : Nat) : Int)) (lv' := [_, _, _, _]) dX12_drawsRow_20 rfl (by decide) (by unfold w32; omega) rfl ?_
    refine r_goto (pc := 23) (tgt := 2) dX12_drawsRow_23 rfl ?_
    exact Ev.re rfl (by rw [rwS_succ]) (ih (k + 1) (by omega) (by omega))
theorem c_checks {n h : Nat} (hT : ShM T) (hd : 2 ≤ d) (hn : N 1 = (n : Int)) (hn2 : n ≤ 256) (hR : Rng N) (hh : I 280 7 = (h : Int)) (hh1 : 1 ≤ h) (hh2 : h ≤ 30) (ht : tN N + h ≤ 13608) (hq : Q (some (aI (isC (rwS N 2580 (n + h - 1)) n h))) T (sr I 283 (ckF N n h))) : EvE G mX12_checks d [aR 274] T (sr I 283 N) Q := by
  refine EvE.mk (lv0 := [some (aR 274), none, none, none]) (Nat.le_of_ble_eq_true rfl) (by decide +kernel) rfl ?_
  refine r_aload_n (pc := 0) (i := 0) dX12_checks_0 rfl rfl ?_
  refine r_sipush (pc := 1) dX12_checks_1 rfl (in32_of rfl) ?_
  refine r_aload_n (pc := 4) (i := 0) dX12_checks_4 rfl rfl ?_
  refine r_getfr (pc := 5) (b := 283) cks dX12_checks_5 fl_X12_37 rfl (kM274 hT) (ltM hT (by omega)) (rM11 hT) ?_
  refine r_iconst (pc := 8) dX12_checks_8 (in32_of rfl) ?_
  refine r_ild (pc := 9) (1) dX12_checks_9 (kM283 hT) (ltM hT (by omega)) (by omega) (by rw [lM283 hT]; omega) ?_
  refine r_top (b := N 1) (sr_at _ _ _ _) ?_
  refine r_top (b := ((n : Nat) : Int)) (hn) ?_
  refine r_aload_n (pc := 10) (i := 0) dX12_checks_10 rfl rfl ?_
  refine r_getfr (pc := 11) (b := 280) cks dX12_checks_11 fl_X12_27 rfl (kM274 hT) (ltM hT (by omega)) (rM6 hT) ?_
  refine r_bipush (pc := 14) dX12_checks_14 rfl (in32_of rfl) ?_
  refine r_ild (pc := 16) (7) dX12_checks_16 (kM280 hT) (ltM hT (by omega)) (by omega) (by rw [lM280 hT]; omega) ?_
  refine r_top (b := I 280 7) ((congrFun (sr_ne (by decide)) _).trans (rfl)) ?_
  refine r_top (b := ((h : Nat) : Int)) (hh) ?_
  refine r_iaddN (pc := 17) (c := ((n + h : Nat) : Int)) dX12_checks_17 (by unfold w32; omega) ?_
  refine r_iconst (pc := 18) dX12_checks_18 (in32_of rfl) ?_
  refine r_isubN (pc := 19) (c := (((n + h - 1) : Nat) : Int)) dX12_checks_19 (by unfold w32; omega) ?_
  refine r_callV0 (pc := 20) (d - 1) [aI 2580, aI (((n + h - 1) : Nat) : Int)] dX12_checks_20 (CV.mk2 mk_X12_drawsRow lk_X12_214) (RC.of (ltM hT (by omega)) (kM274 hT) (by decide) rfl) rfl rfl (by omega) (Nat.le_of_ble_eq_true rfl) (Nat.le_of_ble_eq_true rfl) (c_drawsRow (r := 2580) (m := (n + h - 1)) (N := N) hT (by omega) hR (by omega) (by omega) ?_)
  refine ⟨rfl, fun _ => ?_⟩
  refine r_iconst (pc := 23) dX12_checks_23 (in32_of rfl) ?_
  refine r_istore_n (pc := 24) (i := 1) (lv' := [_, _, _, _]) dX12_checks_24 rfl (by decide) rfl ?_
  refine r_iconst (pc := 25) dX12_checks_25 (in32_of rfl) ?_
  refine r_istore_n (pc := 26) (i := 2) (lv' := [_, _, _, _]) dX12_checks_26 rfl (by decide) rfl ?_
  refine loop1 (fun (i : Nat) => i ≤ h) (fun (i : Nat) => h - i) (fun (i : Nat) => [some (aR 274), some (aI (isC (rwS N 2580 (n + h - 1)) n i)), some (aI ((i : Nat) : Int)), none]) (fun _ => T) (fun (i : Nat) => sr I 283 (ckS (rwS N 2580 (n + h - 1)) n i)) ?_ 0 (Nat.zero_le _)
  intro i hP ih
  have hP : i ≤ h := hP
  have hrw := rwS_ok (N := N) (r := 2580) hR (by omega) (n + h - 1) (by omega)
  have hRW := hrw.1
  have htW : tN (rwS N 2580 (n + h - 1)) = tN N := by unfold tN; rw [hrw.2 3 (by decide) (by omega)]
  have hcs := ckS_ok (n := n) hRW i (by omega)
  have hRc := hcs.1
  have hnc : (ckS (rwS N 2580 (n + h - 1)) n i) 1 = (n : Int) := (hcs.2.2 1 (by decide) (by decide)).trans ((hrw.2 1 (by decide) (by omega)).trans hn)
  have htc := hcs.2.1
  have hci := isC_01 (rwS N 2580 (n + h - 1)) n i
  refine (?_ : Ev G mX12_checks d 27 [some (aR 274), some (aI (isC (rwS N 2580 (n + h - 1)) n i)), some (aI ((i : Nat) : Int)), none] [] T (sr I 283 (ckS (rwS N 2580 (n + h - 1)) n i)) Q)
  refine r_iload_n (pc := 27) (i := 2) dX12_checks_27 rfl rfl ?_
  refine r_aload_n (pc := 28) (i := 0) dX12_checks_28 rfl rfl ?_
  refine r_getfr (pc := 29) (b := 280) cks dX12_checks_29 fl_X12_27 rfl (kM274 hT) (ltM hT (by omega)) (rM6 hT) ?_
  refine r_bipush (pc := 32) dX12_checks_32 rfl (in32_of rfl) ?_
  refine r_ild (pc := 34) (7) dX12_checks_34 (kM280 hT) (ltM hT (by omega)) (by omega) (by rw [lM280 hT]; omega) ?_
  refine r_top (b := I 280 7) ((congrFun (sr_ne (by decide)) _).trans (rfl)) ?_
  refine r_top (b := ((h : Nat) : Int)) (hh) ?_
  refine r_icmp_ge (pc := 35) (tgt := 90) dX12_checks_35 rfl (fun c35 => ?_) (fun c35 => ?_)
  · refine r_aload_n (pc := 90) (i := 0) dX12_checks_90 rfl rfl ?_
    refine r_getfr (pc := 91) (b := 283) cks dX12_checks_91 fl_X12_37 rfl (kM274 hT) (ltM hT (by omega)) (rM11 hT) ?_
    refine r_iconst (pc := 94) dX12_checks_94 (in32_of rfl) ?_
    refine r_iload_n (pc := 95) (i := 1) dX12_checks_95 rfl rfl ?_
    refine r_if_eq (pc := 96) (tgt := 103) dX12_checks_96 rfl (fun c96 => ?_) (fun c96 => ?_)
    · refine r_bipush (pc := 103) dX12_checks_103 rfl (in32_of rfl) ?_
      refine r_ist (pc := 105) (0) dX12_checks_105 (kM283 hT) (ltM hT (by omega)) (by omega) (by rw [lM283 hT]; omega) ?_
      refine r_mem (I2 := sr I 283 (un (ckS (rwS N 2580 (n + h - 1)) n i) 0 6)) (by rw [up2_sr]) ?_
      refine r_iload_n (pc := 106) (i := 1) dX12_checks_106 rfl rfl ?_
      have hih : h = i := by omega
      subst hih
      exact r_iret (pc := 107) dX12_checks_107 hci (by unfold ckF at hq; rw [if_pos c96] at hq; exact hq)
    · refine r_iconst (pc := 99) dX12_checks_99 (in32_of rfl) ?_
      refine r_goto (pc := 100) (tgt := 105) dX12_checks_100 rfl ?_
      refine r_ist (pc := 105) (0) dX12_checks_105 (kM283 hT) (ltM hT (by omega)) (by omega) (by rw [lM283 hT]; omega) ?_
      refine r_mem (I2 := sr I 283 (un (ckS (rwS N 2580 (n + h - 1)) n i) 0 4)) (by rw [up2_sr]) ?_
      refine r_iload_n (pc := 106) (i := 1) dX12_checks_106 rfl rfl ?_
      have hih : h = i := by omega
      subst hih
      exact r_iret (pc := 107) dX12_checks_107 hci (by unfold ckF at hq; rw [if_neg c96] at hq; exact hq)
  · refine r_aload_n (pc := 38) (i := 0) dX12_checks_38 rfl rfl ?_
    refine r_sipush (pc := 39) dX12_checks_39 rfl (in32_of rfl) ?_
    refine r_sipush (pc := 42) dX12_checks_42 rfl (in32_of rfl) ?_
    refine r_iload_n (pc := 45) (i := 2) dX12_checks_45 rfl rfl ?_
    refine r_callV1 (pc := 46) (d - 1) [aI 276, aI 2580, aI ((i : Nat) : Int)] dX12_checks_46 (CV.mk2 mk_X12_parityByRow lk_X12_218) (RC.of (ltM hT (by omega)) (kM274 hT) (by decide) rfl) rfl rfl (by omega) (Nat.le_of_ble_eq_true rfl) (Nat.le_of_ble_eq_true rfl) (c_parityByRow (y := 276) (r := 2580) (i := i) (N := ckS (rwS N 2580 (n + h - 1)) n i) hT hnc hn2 (by omega) (by omega) ?_)
    refine ⟨_, rfl, fun _ => ?_⟩
    refine r_istore_n (pc := 49) (i := 3) (lv' := [_, _, _, _]) dX12_checks_49 rfl (by decide) rfl ?_
    refine r_aload_n (pc := 50) (i := 0) dX12_checks_50 rfl rfl ?_
    refine r_iconst (pc := 51) dX12_checks_51 (in32_of rfl) ?_
    refine r_iload_n (pc := 52) (i := 3) dX12_checks_52 rfl rfl ?_
    refine r_iconst (pc := 53) dX12_checks_53 (in32_of rfl) ?_
    refine r_iload_n (pc := 54) (i := 2) dX12_checks_54 rfl rfl ?_
    refine r_iconst (pc := 55) dX12_checks_55 (in32_of rfl) ?_
    refine r_callV0 (pc := 56) (d - 1) [aI 2, aI (parR (ckS (rwS N 2580 (n + h - 1)) n i) 276 2580 i n), aI 0, aI ((i : Nat) : Int), aI 0] dX12_checks_56 (CV.mk2 mk_X12_tells lk_X12_165) (RC.of (ltM hT (by omega)) (kM274 hT) (by decide) rfl) rfl rfl (by omega) (Nat.le_of_ble_eq_true rfl) (Nat.le_of_ble_eq_true rfl) (c_tells (N := ckS (rwS N 2580 (n + h - 1)) n i) hT hRc (by omega) ?_)
    refine ⟨rfl, fun _ => ?_⟩
    refine r_iload_n (pc := 59) (i := 1) dX12_checks_59 rfl rfl ?_
    refine r_if_eq (pc := 60) (tgt := 82) dX12_checks_60 rfl (fun c60 => ?_) (fun c60 => ?_)
    · refine r_iconst (pc := 82) dX12_checks_82 (in32_of rfl) ?_
      refine r_istore_n (pc := 83) (i := 1) (lv' := [_, _, _, _]) dX12_checks_83 rfl (by decide) rfl ?_
      refine r_iincN (pc := 84) (i := 2) (c := ((i + 1 : Nat) : Int)) (lv' := [_, _, _, _]) dX12_checks_84 rfl (by decide) (by unfold w32; omega) rfl ?_
      refine r_goto (pc := 87) (tgt := 27) dX12_checks_87 rfl ?_
      refine Ev.weak (lv2 := [some (aR 274), some (aI 0), some (aI ((i + 1 : Nat) : Int)), none]) ⟨Or.inr rfl, Or.inr rfl, Or.inr rfl, Or.inl rfl, trivial⟩ ?_
      have hu : isC (rwS N 2580 (n + h - 1)) n (i + 1) = 0 := by rw [isC_succ]; rw [if_pos c60]
      exact Ev.re (by rw [hu]) (by rw [ckS_succ]) (ih (i + 1) (by omega) (by omega))
    · refine r_iload_n (pc := 63) (i := 3) dX12_checks_63 rfl rfl ?_
      refine r_aload_n (pc := 64) (i := 0) dX12_checks_64 rfl rfl ?_
      refine r_sipush (pc := 65) dX12_checks_65 rfl (in32_of rfl) ?_
      refine r_sipush (pc := 68) dX12_checks_68 rfl (in32_of rfl) ?_
      refine r_iload_n (pc := 71) (i := 2) dX12_checks_71 rfl rfl ?_
      refine r_callV1 (pc := 72) (d - 1) [aI 532, aI 2580, aI ((i : Nat) : Int)] dX12_checks_72 (CV.mk2 mk_X12_parityByRow lk_X12_218) (RC.of (ltM hT (by omega)) (kM274 hT) (by decide) rfl) rfl rfl (by omega) (Nat.le_of_ble_eq_true rfl) (Nat.le_of_ble_eq_true rfl) (c_parityByRow (y := 532) (r := 2580) (i := i) (N := tlF (ckS (rwS N 2580 (n + h - 1)) n i) 2 (parR (ckS (rwS N 2580 (n + h - 1)) n i) 276 2580 i n) 0 ((i : Nat) : Int) 0) hT ((tl_ne (by decide) (by decide)).trans hnc) hn2 (by omega) (by omega) ?_)
      refine ⟨_, rfl, fun _ => ?_⟩
      refine r_icmp_ne (pc := 75) (tgt := 82) dX12_checks_75 rfl (fun c75 => ?_) (fun c75 => ?_)
      · refine r_iconst (pc := 82) dX12_checks_82 (in32_of rfl) ?_
        refine r_istore_n (pc := 83) (i := 1) (lv' := [_, _, _, _]) dX12_checks_83 rfl (by decide) rfl ?_
        refine r_iincN (pc := 84) (i := 2) (c := ((i + 1 : Nat) : Int)) (lv' := [_, _, _, _]) dX12_checks_84 rfl (by decide) (by unfold w32; omega) rfl ?_
        refine r_goto (pc := 87) (tgt := 27) dX12_checks_87 rfl ?_
        refine Ev.weak (lv2 := [some (aR 274), some (aI 0), some (aI ((i + 1 : Nat) : Int)), none]) ⟨Or.inr rfl, Or.inr rfl, Or.inr rfl, Or.inl rfl, trivial⟩ ?_
        have hu : isC (rwS N 2580 (n + h - 1)) n (i + 1) = 0 := by rw [isC_succ, if_neg c60, ckS_succ, if_neg c75]
        exact Ev.re (by rw [hu]) (by rw [ckS_succ]) (ih (i + 1) (by omega) (by omega))
      · have c75 := Decidable.of_not_not c75
        refine r_iconst (pc := 78) dX12_checks_78 (in32_of rfl) ?_
        refine r_goto (pc := 79) (tgt := 83) dX12_checks_79 rfl ?_
        refine r_istore_n (pc := 83) (i := 1) (lv' := [_, _, _, _]) dX12_checks_83 rfl (by decide) rfl ?_
        refine r_iincN (pc := 84) (i := 2) (c := ((i + 1 : Nat) : Int)) (lv' := [_, _, _, _]) dX12_checks_84 rfl (by decide) (by unfold w32; omega) rfl ?_
        refine r_goto (pc := 87) (tgt := 27) dX12_checks_87 rfl ?_
        refine Ev.weak (lv2 := [some (aR 274), some (aI 1), some (aI ((i + 1 : Nat) : Int)), none]) ⟨Or.inr rfl, Or.inr rfl, Or.inr rfl, Or.inl rfl, trivial⟩ ?_
        have hu : isC (rwS N 2580 (n + h - 1)) n (i + 1) = 1 := by rw [isC_succ, if_neg c60, ckS_succ, if_pos c75]
        exact Ev.re (by rw [hu]) (by rw [ckS_succ]) (ih (i + 1) (by omega) (by omega))
theorem p8_tl {N : Nat → Int} {q a b c f : Int} {y e : Nat} {j : Int} (hy : 3 < y) (hy2 : y ≤ 600) (he : e ≤ 40) : ∀ k, k ≤ 8 → p8 (tlF N q a b c f) y e j k = p8 N y e j k := by
  intro k
  induction k with
  | zero => intro _; rfl
  | succ k ih => intro hk; rw [p8_succ, p8_succ, ih (by omega), tl_ne (by omega) (by omega)]
def a8F (N : Nat → Int) (e : Nat) (j : Int) : Nat → Int := tlF N 1 (p8 N 276 e j 8) 0 e j
def u8 (N : Nat → Int) (e : Nat) (j : Int) : Int := bi (¬ p8 N 276 e j 8 = p8 N 532 e j 8)
theorem c_asksEight {e : Nat} {j : Int} (hT : ShM T) (hd : 2 ≤ d) (hR : Rng N) (ht : tN N < 13608) (he : e ≤ 40) (hj0 : 0 ≤ j) (hj3 : j ≤ 3) (hq : Q (some (aI (u8 N e j))) T (sr I 283 (a8F N e j))) : EvE G mX12_asksEight d [aR 274, aI ((e : Nat) : Int), aI j] T (sr I 283 N) Q := by
  refine EvE.mk (lv0 := [some (aR 274), some (aI ((e : Nat) : Int)), some (aI j), none]) (Nat.le_of_ble_eq_true rfl) (by decide +kernel) rfl ?_
  refine r_aload_n (pc := 0) (i := 0) dX12_asksEight_0 rfl rfl ?_
  refine r_sipush (pc := 1) dX12_asksEight_1 rfl (in32_of rfl) ?_
  refine r_iload_n (pc := 4) (i := 1) dX12_asksEight_4 rfl rfl ?_
  refine r_iload_n (pc := 5) (i := 2) dX12_asksEight_5 rfl rfl ?_
  refine r_callV1 (pc := 6) (d - 1) [aI 276, aI ((e : Nat) : Int), aI j] dX12_asksEight_6 (CV.mk2 mk_X12_parityOfEight lk_X12_207) (RC.of (ltM hT (by omega)) (kM274 hT) (by decide) rfl) rfl rfl (by omega) (Nat.le_of_ble_eq_true rfl) (Nat.le_of_ble_eq_true rfl) (c_parityOfEight (y := 276) (e := e) (j := j) hT (by omega) (by omega) (by omega) (by omega) ?_)
  refine ⟨_, rfl, fun _ => ?_⟩
  refine r_istore_n (pc := 9) (i := 3) (lv' := [_, _, _, _]) dX12_asksEight_9 rfl (by decide) rfl ?_
  refine r_aload_n (pc := 10) (i := 0) dX12_asksEight_10 rfl rfl ?_
  refine r_iconst (pc := 11) dX12_asksEight_11 (in32_of rfl) ?_
  refine r_iload_n (pc := 12) (i := 3) dX12_asksEight_12 rfl rfl ?_
  refine r_iconst (pc := 13) dX12_asksEight_13 (in32_of rfl) ?_
  refine r_iload_n (pc := 14) (i := 1) dX12_asksEight_14 rfl rfl ?_
  refine r_iload_n (pc := 15) (i := 2) dX12_asksEight_15 rfl rfl ?_
  refine r_callV0 (pc := 16) (d - 1) [aI 1, aI (p8 N 276 e j 8), aI 0, aI ((e : Nat) : Int), aI j] dX12_asksEight_16 (CV.mk2 mk_X12_tells lk_X12_165) (RC.of (ltM hT (by omega)) (kM274 hT) (by decide) rfl) rfl rfl (by omega) (Nat.le_of_ble_eq_true rfl) (Nat.le_of_ble_eq_true rfl) (c_tells (N := N) hT hR (by omega) ?_)
  refine ⟨rfl, fun _ => ?_⟩
  refine r_iload_n (pc := 19) (i := 3) dX12_asksEight_19 rfl rfl ?_
  refine r_aload_n (pc := 20) (i := 0) dX12_asksEight_20 rfl rfl ?_
  refine r_sipush (pc := 21) dX12_asksEight_21 rfl (in32_of rfl) ?_
  refine r_iload_n (pc := 24) (i := 1) dX12_asksEight_24 rfl rfl ?_
  refine r_iload_n (pc := 25) (i := 2) dX12_asksEight_25 rfl rfl ?_
  refine r_callV1 (pc := 26) (d - 1) [aI 532, aI ((e : Nat) : Int), aI j] dX12_asksEight_26 (CV.mk2 mk_X12_parityOfEight lk_X12_207) (RC.of (ltM hT (by omega)) (kM274 hT) (by decide) rfl) rfl rfl (by omega) (Nat.le_of_ble_eq_true rfl) (Nat.le_of_ble_eq_true rfl) (c_parityOfEight (y := 532) (e := e) (j := j) hT (by omega) (by omega) (by omega) (by omega) ?_)
  refine ⟨_, rfl, fun _ => ?_⟩
  refine r_icmp_eq (pc := 29) (tgt := 36) dX12_asksEight_29 rfl (fun c29 => ?_) (fun c29 => ?_)
  · refine r_iconst (pc := 36) dX12_asksEight_36 (in32_of rfl) ?_
    exact r_iret (pc := 37) dX12_asksEight_37 (Or.inl rfl) (by rw [show u8 N e j = 0 from bi_f (by rw [p8_tl (by decide) (by decide) he 8 (Nat.le_refl _)] at c29; exact not_not_intro c29)] at hq; exact hq)
  · refine r_iconst (pc := 32) dX12_asksEight_32 (in32_of rfl) ?_
    refine r_goto (pc := 33) (tgt := 37) dX12_asksEight_33 rfl ?_
    exact r_iret (pc := 37) dX12_asksEight_37 (Or.inr rfl) (by rw [show u8 N e j = 1 from bi_t (by rw [p8_tl (by decide) (by decide) he 8 (Nat.le_refl _)] at c29; exact c29)] at hq; exact hq)
end M12
