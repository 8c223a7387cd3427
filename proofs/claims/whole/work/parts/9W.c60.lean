section C60
variable {G : Gl} {d : Nat} {T : Sh} {I : Mi} {N : Nat → Int} {Q : Option AV → Sh → Mi → Prop}
theorem St_z {T : Sh} {L : Nat → Int} {I K : Mi} {p o t c : Nat} {N : Nat → Int} (hS : ShS T 9 p o t c) (h : StR L I 9 p o t N) (hf : ∀ b, b < 215 ∨ 215 + 4 ≤ b → K b = I b) : StR L K 9 p o t N := by
  have := neS hS
  exact StR_eq h (fun k hk _ _ _ => hf _ (by omega)) (hf _ (by omega)) (hf _ (by omega)) (hf _ (by omega))
theorem rk_def (N : Nat → Int) (n : Nat) (S Z Y : Nat → Int) : rkD N n S Z Y = tlD N n (S, Z, z8 Y 256, 0) (tN N) := rfl
theorem k_rank {A : AN} {L : Nat → Int} {p o t c q n : Nat} (hK : KSh T A) (hS : ShS T 9 p o t c) {S Z Y : Nat → Int} (hd : 4 ≤ d) (hst : StR L I 9 p o t N) (htc : tN N ≤ c) (hNo : NOk N q n) (hq : ∀ K : Mi, (∀ b, b < 215 ∨ 215 + 4 ≤ b → K b = I b) → Q (some (aI (rkD N n S Z Y).2.2.2)) T K) : EvE G mX11_rank d [aR 0] T I Q := by
  have hn2 := hNo.1.2.2.1
  have h6r := ok_6.mp (hNo.1.1 6)
  refine EvE.mk (lv0 := [some (aR 0)]) (Nat.le_of_ble_eq_true rfl) (by decide +kernel) rfl ?_
  refine r_aload_n (pc := 0) (i := 0) dX11_rank_0 rfl rfl ?_
  refine r_getfr (pc := 1) (b := 215) cks dX11_rank_1 fl_X11_69 rfl (kK0 hK) (ltK hK (by decide)) (rK0_10 hK) ?_
  refine r_callV0 (pc := 4) (d - 1) [] dX11_rank_4 (CV.mk2 mk_X8_clear lk_X11_268) (RC.of (ltZ0 (zK215 hK)) (kZ0 (zK215 hK)) (by decide) rfl) rfl rfl (by omega) (Nat.le_of_ble_eq_true rfl) (Nat.le_of_ble_eq_true rfl) (k_spClear (n := n) (Z := Z) (Y := Y) (zK215 hK) (by omega) (fun K1 hf1 hs1 => ?_))
  refine ⟨rfl, fun _ => ?_⟩
  have hst1 := St_z hS hst hf1
  refine r_aload_n (pc := 7) (i := 0) dX11_rank_7 rfl rfl ?_
  refine r_getfr (pc := 8) (b := 215) cks dX11_rank_8 fl_X11_69 rfl (kK0 hK) (ltK hK (by decide)) (rK0_10 hK) ?_
  refine r_aload_n (pc := 11) (i := 0) dX11_rank_11 rfl rfl ?_
  refine r_getfr (pc := 12) (b := 9) cks dX11_rank_12 fl_X11_34 rfl (kK0 hK) (ltK hK (by decide)) (rK0_4 hK) ?_
  refine r_getfr (pc := 15) (b := 9 + 7) cks dX11_rank_15 fl_X11_210 rfl (kS0 hS) (ltS0 hS) (rS0_12 hS) ?_
  refine r_callV0 (pc := 18) (d - 1) [aR (9 + 7)] dX11_rank_18 (CV.mk2 mk_X8_addLedger lk_X11_269) (RC.of (ltZ0 (zK215 hK)) (kZ0 (zK215 hK)) (by decide) rfl) rfl rfl (by omega) (Nat.le_of_ble_eq_true rfl) (Nat.le_of_ble_eq_true rfl) (k_addLedger (n := n) (qq := q) (D := (S, Z, z8 Y 256, 0)) (zK215 hK) hS (by omega) (by omega) hNo.1 hNo.2.1 hst1.2.2.2.2.1 htc hs1 (fun K2 hf2 hs2 => ?_))
  refine ⟨rfl, fun _ => ?_⟩
  have hs2 : SpP K2 215 n (rkD N n S Z Y).2 := hs2
  have hf2I : ∀ b, b < 215 ∨ 215 + 4 ≤ b → K2 b = I b := fun b hb => (hf2 b hb).trans (hf1 b hb)
  have hst2 := St_z hS hst hf2I
  refine r_aload_n (pc := 21) (i := 0) dX11_rank_21 rfl rfl ?_
  refine r_getfr (pc := 22) (b := 215) cks dX11_rank_22 fl_X11_69 rfl (kK0 hK) (ltK hK (by decide)) (rK0_10 hK) ?_
  refine r_getfi (pc := 25) cks dX11_rank_25 fl_X11_273 rfl (kZ0 (zK215 hK)) (ltZ0 (zK215 hK)) ?_
  refine r_top (b := (rkD N n S Z Y).2.2.2) (hs2.2) ?_
  exact r_iret (pc := 28) dX11_rank_28 trivial (hq K2 hf2I)
theorem fx_01 (Z Y S : Nat → Int) (n p : Nat) : fxI Z Y S n p = 0 ∨ fxI Z Y S n p = 1 := bi_01 _
theorem fxP_s (Z Y : Nat → Int) (n : Nat) (S : Nat → Int) (k : Nat) : (fxP Z Y n S (k + 1)).1 = (fxP Z Y n S k).1 + (fxI Z Y (fxP Z Y n S k).2 n k).toNat := rfl
theorem k_fixed {A : AN} {L : Nat → Int} {p o t c q n : Nat} (hK : KSh T A) (hS : ShS T 9 p o t c) {x0 : Int} {S Z Y : Nat → Int} (hd : 4 ≤ d) (hst : StR L I 9 p o t N) (htc : tN N ≤ c) (hNo : NOk N q n) (hq0 : ¬ (x0 = -1 ∨ (0 ≤ x0 ∧ x0 < (n : Int))) → Q (some (aI (-1))) T I) (hq1 : (x0 = -1 ∨ (0 ≤ x0 ∧ x0 < (n : Int))) → ∀ K : Mi, (∀ b, b < 215 ∨ 215 + 4 ≤ b → K b = I b) → Q (some (aI (fxA (rkD N n S Z Y) n x0))) T K) : EvE G mX11_fixed d [aR 0, aI x0] T I Q := by
  have hn2 := hNo.1.2.2.1
  have h6r := ok_6.mp (hNo.1.1 6)
  refine EvE.mk (lv0 := [some (aR 0), some (aI x0), none, none]) (Nat.le_of_ble_eq_true rfl) (by decide +kernel) rfl ?_
  refine r_iload_n (pc := 0) (i := 1) dX11_fixed_0 rfl rfl ?_
  refine r_iconst (pc := 1) dX11_fixed_1 (in32_of rfl) ?_
  refine r_icmp_eq (pc := 2) (tgt := 21) dX11_fixed_2 rfl (fun c2 => ?_) (fun c2 => ?_)
  · refine r_aload_n (pc := 21) (i := 0) dX11_fixed_21 rfl rfl ?_
    refine r_getfr (pc := 22) (b := 215) cks dX11_fixed_22 fl_X11_69 rfl (kK0 hK) (ltK hK (by decide)) (rK0_10 hK) ?_
    refine r_callV0 (pc := 25) (d - 1) [] dX11_fixed_25 (CV.mk2 mk_X8_clear lk_X11_268) (RC.of (ltZ0 (zK215 hK)) (kZ0 (zK215 hK)) (by decide) rfl) rfl rfl (by omega) (Nat.le_of_ble_eq_true rfl) (Nat.le_of_ble_eq_true rfl) (k_spClear (n := n) (Z := Z) (Y := Y) (zK215 hK) (by omega) (fun K1 hf1 hs1 => ?_))
    refine ⟨rfl, fun _ => ?_⟩
    have hst1 := St_z hS hst hf1
    refine r_aload_n (pc := 28) (i := 0) dX11_fixed_28 rfl rfl ?_
    refine r_getfr (pc := 29) (b := 215) cks dX11_fixed_29 fl_X11_69 rfl (kK0 hK) (ltK hK (by decide)) (rK0_10 hK) ?_
    refine r_aload_n (pc := 32) (i := 0) dX11_fixed_32 rfl rfl ?_
    refine r_getfr (pc := 33) (b := 9) cks dX11_fixed_33 fl_X11_34 rfl (kK0 hK) (ltK hK (by decide)) (rK0_4 hK) ?_
    refine r_getfr (pc := 36) (b := 9 + 7) cks dX11_fixed_36 fl_X11_210 rfl (kS0 hS) (ltS0 hS) (rS0_12 hS) ?_
    refine r_callV0 (pc := 39) (d - 1) [aR (9 + 7)] dX11_fixed_39 (CV.mk2 mk_X8_addLedger lk_X11_269) (RC.of (ltZ0 (zK215 hK)) (kZ0 (zK215 hK)) (by decide) rfl) rfl rfl (by omega) (Nat.le_of_ble_eq_true rfl) (Nat.le_of_ble_eq_true rfl) (k_addLedger (n := n) (qq := q) (D := (S, Z, z8 Y 256, 0)) (zK215 hK) hS (by omega) (by omega) hNo.1 hNo.2.1 hst1.2.2.2.2.1 htc hs1 (fun K2 hf2 hs2 => ?_))
    refine ⟨rfl, fun _ => ?_⟩
    have hs2 : SpP K2 215 n (rkD N n S Z Y).2 := hs2
    have hf2I : ∀ b, b < 215 ∨ 215 + 4 ≤ b → K2 b = I b := fun b hb => (hf2 b hb).trans (hf1 b hb)
    have hst2 := St_z hS hst hf2I
    refine r_iload_n (pc := 42) (i := 1) dX11_fixed_42 rfl rfl ?_
    refine r_iconst (pc := 43) dX11_fixed_43 (in32_of rfl) ?_
    refine r_icmp_eq (pc := 44) (tgt := 64) dX11_fixed_44 rfl (fun c44 => ?_) (fun c44 => ?_)
    · refine r_iconst (pc := 64) dX11_fixed_64 (in32_of rfl) ?_
      refine r_istore_n (pc := 65) (i := 2) (lv' := [_, _, _, _]) dX11_fixed_65 rfl (by decide) rfl ?_
      refine r_iconst (pc := 66) dX11_fixed_66 (in32_of rfl) ?_
      refine r_istore_n (pc := 67) (i := 3) (lv' := [_, _, _, _]) dX11_fixed_67 rfl (by decide) rfl ?_
      refine Ev.weak (lv2 := [some (aR 0), none, some (aI 0), some (aI 0)]) ⟨Or.inr rfl, Or.inl rfl, Or.inr rfl, Or.inr rfl, trivial⟩ ?_
      refine loop2 (fun (k : Nat) (K : Mi) => k ≤ n ∧ (∀ b, b < 215 ∨ 215 + 4 ≤ b → K b = I b) ∧ BsP (K (215 + 1)) (K (215 + 2)) n (rkD N n S Z Y).2.1 (rkD N n S Z Y).2.2.1) (fun (k : Nat) (K : Mi) => n - k) (fun (k : Nat) (K : Mi) => [some (aR 0), none, some (aI ((((fxP (rkD N n S Z Y).2.1 (rkD N n S Z Y).2.2.1 n (rkD N n S Z Y).1 k).1) : Nat) : Int)), some (aI ((k : Nat) : Int))]) (fun _ _ => T) (fun (k : Nat) (K : Mi) => K) ?_ 0 K2 ⟨Nat.zero_le _, hf2I, hs2.1⟩
      intro k K hP ih
      have hP : k ≤ n ∧ (∀ b, b < 215 ∨ 215 + 4 ≤ b → K b = I b) ∧ BsP (K (215 + 1)) (K (215 + 2)) n (rkD N n S Z Y).2.1 (rkD N n S Z Y).2.2.1 := hP
      have hstK := St_z hS hst hP.2.1
      have hfl := fxP_le (rkD N n S Z Y).2.1 (rkD N n S Z Y).2.2.1 n (rkD N n S Z Y).1 k
      refine (?_ : Ev G mX11_fixed d 68 [some (aR 0), none, some (aI ((((fxP (rkD N n S Z Y).2.1 (rkD N n S Z Y).2.2.1 n (rkD N n S Z Y).1 k).1) : Nat) : Int)), some (aI ((k : Nat) : Int))] [] T K Q)
      refine r_iload_n (pc := 68) (i := 3) dX11_fixed_68 rfl rfl ?_
      refine r_aload_n (pc := 69) (i := 0) dX11_fixed_69 rfl rfl ?_
      refine r_getfr (pc := 70) (b := 9) cks dX11_fixed_70 fl_X11_34 rfl (kK0 hK) (ltK hK (by decide)) (rK0_4 hK) ?_
      refine r_getfr (pc := 73) (b := 9 + 3) cks dX11_fixed_73 fl_X11_117 rfl (kS0 hS) (ltS0 hS) (rS0_11 hS) ?_
      refine r_getfi (pc := 76) cks dX11_fixed_76 fl_X11_121 rfl (kS3 hS) (ltS (k := 3) hS (by omega)) ?_
      refine r_top (b := ((n : Nat) : Int)) (hstK.2.2.2.1.1.trans hNo.1.2.1) ?_
      refine r_icmp_ge (pc := 79) (tgt := 107) dX11_fixed_79 rfl (fun c79 => ?_) (fun c79 => ?_)
      · refine r_iload_n (pc := 107) (i := 2) dX11_fixed_107 rfl rfl ?_
        have hkn : k = n := by omega
        subst hkn
        have hv : fxA (rkD N k S Z Y) k x0 = (((fxP (rkD N k S Z Y).2.1 (rkD N k S Z Y).2.2.1 k (rkD N k S Z Y).1 k).1 : Nat) : Int) := by unfold fxA; rw [if_pos (by omega)]
        exact r_iret (pc := 108) dX11_fixed_108 trivial (by have h := hq1 (by omega) K hP.2.1; rw [hv] at h; exact h)
      · refine r_iload_n (pc := 82) (i := 2) dX11_fixed_82 rfl rfl ?_
        refine r_aload_n (pc := 83) (i := 0) dX11_fixed_83 rfl rfl ?_
        refine r_getfr (pc := 84) (b := 215) cks dX11_fixed_84 fl_X11_69 rfl (kK0 hK) (ltK hK (by decide)) (rK0_10 hK) ?_
        refine r_iload_n (pc := 87) (i := 3) dX11_fixed_87 rfl rfl ?_
        refine r_callV1 (pc := 88) (d - 1) [aI ((k : Nat) : Int)] dX11_fixed_88 (CV.mk2 mk_X8_holdsPlace lk_X11_274) (RC.of (ltZ0 (zK215 hK)) (kZ0 (zK215 hK)) (by decide) rfl) rfl rfl (by omega) (Nat.le_of_ble_eq_true rfl) (Nat.le_of_ble_eq_true rfl) (k_holdsPlace (n := n) (x := k) (Z := (rkD N n S Z Y).2.1) (Y := (rkD N n S Z Y).2.2.1) (S := (fxP (rkD N n S Z Y).2.1 (rkD N n S Z Y).2.2.1 n (rkD N n S Z Y).1 k).2) (zK215 hK) (by omega) hn2 (by omega) hP.2.2 (fun W => ?_))
        refine ⟨_, rfl, fun _ => ?_⟩
        refine r_if_eq (pc := 91) (tgt := 98) dX11_fixed_91 rfl (fun c91 => ?_) (fun c91 => ?_)
        · refine r_iconst (pc := 98) dX11_fixed_98 (in32_of rfl) ?_
          refine r_iaddN (pc := 99) (c := ((((fxP (rkD N n S Z Y).2.1 (rkD N n S Z Y).2.2.1 n (rkD N n S Z Y).1 k).1) : Nat) : Int)) dX11_fixed_99 (by unfold w32; omega) ?_
          refine r_istore_n (pc := 100) (i := 2) (lv' := [_, _, _, _]) dX11_fixed_100 rfl (by decide) rfl ?_
          refine r_iincN (pc := 101) (i := 3) (c := ((k + 1 : Nat) : Int)) (lv' := [_, _, _, _]) dX11_fixed_101 rfl (by decide) (by unfold w32; omega) rfl ?_
          refine r_goto (pc := 104) (tgt := 68) dX11_fixed_104 rfl ?_
          have hfs := fxP_s (rkD N n S Z Y).2.1 (rkD N n S Z Y).2.2.1 n (rkD N n S Z Y).1 k
          exact Ev.re (by rw [hfs, show (fxI (rkD N n S Z Y).2.1 (rkD N n S Z Y).2.2.1 (fxP (rkD N n S Z Y).2.1 (rkD N n S Z Y).2.2.1 n (rkD N n S Z Y).1 k).2 n k).toNat = 0 by rw [c91]; rfl]; rfl) rfl (ih (k + 1) (sr K (215 + 3) W) ⟨by omega, fun b hb => (sr_ne (by omega)).trans (hP.2.1 b hb), by rw [sr_ne (by omega), sr_ne (by omega)]; exact hP.2.2⟩ (by omega))
        · refine r_iconst (pc := 94) dX11_fixed_94 (in32_of rfl) ?_
          refine r_goto (pc := 95) (tgt := 99) dX11_fixed_95 rfl ?_
          refine r_iaddN (pc := 99) (c := ((((fxP (rkD N n S Z Y).2.1 (rkD N n S Z Y).2.2.1 n (rkD N n S Z Y).1 k).1) + 1 : Nat) : Int)) dX11_fixed_99 (by unfold w32; omega) ?_
          refine r_istore_n (pc := 100) (i := 2) (lv' := [_, _, _, _]) dX11_fixed_100 rfl (by decide) rfl ?_
          refine r_iincN (pc := 101) (i := 3) (c := ((k + 1 : Nat) : Int)) (lv' := [_, _, _, _]) dX11_fixed_101 rfl (by decide) (by unfold w32; omega) rfl ?_
          refine r_goto (pc := 104) (tgt := 68) dX11_fixed_104 rfl ?_
          have hfs := fxP_s (rkD N n S Z Y).2.1 (rkD N n S Z Y).2.2.1 n (rkD N n S Z Y).1 k
          exact Ev.re (by rw [hfs, show (fxI (rkD N n S Z Y).2.1 (rkD N n S Z Y).2.2.1 (fxP (rkD N n S Z Y).2.1 (rkD N n S Z Y).2.2.1 n (rkD N n S Z Y).1 k).2 n k).toNat = 1 by have h01 := fx_01 (rkD N n S Z Y).2.1 (rkD N n S Z Y).2.2.1 (fxP (rkD N n S Z Y).2.1 (rkD N n S Z Y).2.2.1 n (rkD N n S Z Y).1 k).2 n k; omega]) rfl (ih (k + 1) (sr K (215 + 3) W) ⟨by omega, fun b hb => (sr_ne (by omega)).trans (hP.2.1 b hb), by rw [sr_ne (by omega), sr_ne (by omega)]; exact hP.2.2⟩ (by omega))
    · obtain ⟨x, rfl⟩ : ∃ e : Nat, x0 = (e : Int) := ⟨(x0).toNat, by omega⟩
      refine r_aload_n (pc := 47) (i := 0) dX11_fixed_47 rfl rfl ?_
      refine r_getfr (pc := 48) (b := 215) cks dX11_fixed_48 fl_X11_69 rfl (kK0 hK) (ltK hK (by decide)) (rK0_10 hK) ?_
      refine r_iload_n (pc := 51) (i := 1) dX11_fixed_51 rfl rfl ?_
      refine r_callV1 (pc := 52) (d - 1) [aI ((x : Nat) : Int)] dX11_fixed_52 (CV.mk2 mk_X8_holdsPlace lk_X11_274) (RC.of (ltZ0 (zK215 hK)) (kZ0 (zK215 hK)) (by decide) rfl) rfl rfl (by omega) (Nat.le_of_ble_eq_true rfl) (Nat.le_of_ble_eq_true rfl) (k_holdsPlace (n := n) (x := x) (Z := (rkD N n S Z Y).2.1) (Y := (rkD N n S Z Y).2.2.1) (S := (rkD N n S Z Y).1) (zK215 hK) (by omega) hn2 (by omega) hs2.1 (fun W => ?_))
      refine ⟨_, rfl, fun _ => ?_⟩
      refine r_if_eq (pc := 55) (tgt := 62) dX11_fixed_55 rfl (fun c55 => ?_) (fun c55 => ?_)
      · refine r_iconst (pc := 62) dX11_fixed_62 (in32_of rfl) ?_
        have hv : fxA (rkD N n S Z Y) n ((x : Nat) : Int) = 0 := by have h01 := fx_01 (rkD N n S Z Y).2.1 (rkD N n S Z Y).2.2.1 (rkD N n S Z Y).1 n x; unfold fxA; rw [if_neg (by omega), if_pos (by omega), Int.toNat_natCast]; omega
        exact r_iret (pc := 63) dX11_fixed_63 trivial (by have h := hq1 (by omega) (sr K2 (215 + 3) W) (fun b hb => (sr_ne (by omega)).trans (hf2I b hb)); rw [hv] at h; exact h)
      · refine r_iconst (pc := 58) dX11_fixed_58 (in32_of rfl) ?_
        refine r_goto (pc := 59) (tgt := 63) dX11_fixed_59 rfl ?_
        have hv : fxA (rkD N n S Z Y) n ((x : Nat) : Int) = 1 := by have h01 := fx_01 (rkD N n S Z Y).2.1 (rkD N n S Z Y).2.2.1 (rkD N n S Z Y).1 n x; unfold fxA; rw [if_neg (by omega), if_pos (by omega), Int.toNat_natCast]; omega
        exact r_iret (pc := 63) dX11_fixed_63 trivial (by have h := hq1 (by omega) (sr K2 (215 + 3) W) (fun b hb => (sr_ne (by omega)).trans (hf2I b hb)); rw [hv] at h; exact h)
  · refine r_aload_n (pc := 5) (i := 0) dX11_fixed_5 rfl rfl ?_
    refine r_getfr (pc := 6) (b := 9) cks dX11_fixed_6 fl_X11_34 rfl (kK0 hK) (ltK hK (by decide)) (rK0_4 hK) ?_
    refine r_getfr (pc := 9) (b := 9 + 3) cks dX11_fixed_9 fl_X11_117 rfl (kS0 hS) (ltS0 hS) (rS0_11 hS) ?_
    refine r_iload_n (pc := 12) (i := 1) dX11_fixed_12 rfl rfl ?_
    refine r_callV1 (pc := 13) (d - 1) [aI x0] dX11_fixed_13 (CV.mk2 mk_X3_has lk_X11_175) (RC.of (ltS (k := 3) hS (by omega)) (kS3 hS) (by decide) rfl) rfl rfl (by omega) (Nat.le_of_ble_eq_true rfl) (Nat.le_of_ble_eq_true rfl) (k_has (n := n) hS (hst.2.2.2.1.1.trans hNo.1.2.1) hn2 ?_)
    refine ⟨_, rfl, fun _ => ?_⟩
    refine r_if_ne (pc := 16) (tgt := 21) dX11_fixed_16 rfl (fun c16 => ?_) (fun c16 => ?_)
    · have c16 := bi_1 c16
      refine r_aload_n (pc := 21) (i := 0) dX11_fixed_21 rfl rfl ?_
      refine r_getfr (pc := 22) (b := 215) cks dX11_fixed_22 fl_X11_69 rfl (kK0 hK) (ltK hK (by decide)) (rK0_10 hK) ?_
      refine r_callV0 (pc := 25) (d - 1) [] dX11_fixed_25 (CV.mk2 mk_X8_clear lk_X11_268) (RC.of (ltZ0 (zK215 hK)) (kZ0 (zK215 hK)) (by decide) rfl) rfl rfl (by omega) (Nat.le_of_ble_eq_true rfl) (Nat.le_of_ble_eq_true rfl) (k_spClear (n := n) (Z := Z) (Y := Y) (zK215 hK) (by omega) (fun K1 hf1 hs1 => ?_))
      refine ⟨rfl, fun _ => ?_⟩
      have hst1 := St_z hS hst hf1
      refine r_aload_n (pc := 28) (i := 0) dX11_fixed_28 rfl rfl ?_
      refine r_getfr (pc := 29) (b := 215) cks dX11_fixed_29 fl_X11_69 rfl (kK0 hK) (ltK hK (by decide)) (rK0_10 hK) ?_
      refine r_aload_n (pc := 32) (i := 0) dX11_fixed_32 rfl rfl ?_
      refine r_getfr (pc := 33) (b := 9) cks dX11_fixed_33 fl_X11_34 rfl (kK0 hK) (ltK hK (by decide)) (rK0_4 hK) ?_
      refine r_getfr (pc := 36) (b := 9 + 7) cks dX11_fixed_36 fl_X11_210 rfl (kS0 hS) (ltS0 hS) (rS0_12 hS) ?_
      refine r_callV0 (pc := 39) (d - 1) [aR (9 + 7)] dX11_fixed_39 (CV.mk2 mk_X8_addLedger lk_X11_269) (RC.of (ltZ0 (zK215 hK)) (kZ0 (zK215 hK)) (by decide) rfl) rfl rfl (by omega) (Nat.le_of_ble_eq_true rfl) (Nat.le_of_ble_eq_true rfl) (k_addLedger (n := n) (qq := q) (D := (S, Z, z8 Y 256, 0)) (zK215 hK) hS (by omega) (by omega) hNo.1 hNo.2.1 hst1.2.2.2.2.1 htc hs1 (fun K2 hf2 hs2 => ?_))
      refine ⟨rfl, fun _ => ?_⟩
      have hs2 : SpP K2 215 n (rkD N n S Z Y).2 := hs2
      have hf2I : ∀ b, b < 215 ∨ 215 + 4 ≤ b → K2 b = I b := fun b hb => (hf2 b hb).trans (hf1 b hb)
      have hst2 := St_z hS hst hf2I
      refine r_iload_n (pc := 42) (i := 1) dX11_fixed_42 rfl rfl ?_
      refine r_iconst (pc := 43) dX11_fixed_43 (in32_of rfl) ?_
      refine r_icmp_eq (pc := 44) (tgt := 64) dX11_fixed_44 rfl (fun c44 => ?_) (fun c44 => ?_)
      · refine r_iconst (pc := 64) dX11_fixed_64 (in32_of rfl) ?_
        refine r_istore_n (pc := 65) (i := 2) (lv' := [_, _, _, _]) dX11_fixed_65 rfl (by decide) rfl ?_
        refine r_iconst (pc := 66) dX11_fixed_66 (in32_of rfl) ?_
        refine r_istore_n (pc := 67) (i := 3) (lv' := [_, _, _, _]) dX11_fixed_67 rfl (by decide) rfl ?_
        refine Ev.weak (lv2 := [some (aR 0), none, some (aI 0), some (aI 0)]) ⟨Or.inr rfl, Or.inl rfl, Or.inr rfl, Or.inr rfl, trivial⟩ ?_
        refine loop2 (fun (k : Nat) (K : Mi) => k ≤ n ∧ (∀ b, b < 215 ∨ 215 + 4 ≤ b → K b = I b) ∧ BsP (K (215 + 1)) (K (215 + 2)) n (rkD N n S Z Y).2.1 (rkD N n S Z Y).2.2.1) (fun (k : Nat) (K : Mi) => n - k) (fun (k : Nat) (K : Mi) => [some (aR 0), none, some (aI ((((fxP (rkD N n S Z Y).2.1 (rkD N n S Z Y).2.2.1 n (rkD N n S Z Y).1 k).1) : Nat) : Int)), some (aI ((k : Nat) : Int))]) (fun _ _ => T) (fun (k : Nat) (K : Mi) => K) ?_ 0 K2 ⟨Nat.zero_le _, hf2I, hs2.1⟩
        intro k K hP ih
        have hP : k ≤ n ∧ (∀ b, b < 215 ∨ 215 + 4 ≤ b → K b = I b) ∧ BsP (K (215 + 1)) (K (215 + 2)) n (rkD N n S Z Y).2.1 (rkD N n S Z Y).2.2.1 := hP
        have hstK := St_z hS hst hP.2.1
        have hfl := fxP_le (rkD N n S Z Y).2.1 (rkD N n S Z Y).2.2.1 n (rkD N n S Z Y).1 k
        refine (?_ : Ev G mX11_fixed d 68 [some (aR 0), none, some (aI ((((fxP (rkD N n S Z Y).2.1 (rkD N n S Z Y).2.2.1 n (rkD N n S Z Y).1 k).1) : Nat) : Int)), some (aI ((k : Nat) : Int))] [] T K Q)
        refine r_iload_n (pc := 68) (i := 3) dX11_fixed_68 rfl rfl ?_
        refine r_aload_n (pc := 69) (i := 0) dX11_fixed_69 rfl rfl ?_
        refine r_getfr (pc := 70) (b := 9) cks dX11_fixed_70 fl_X11_34 rfl (kK0 hK) (ltK hK (by decide)) (rK0_4 hK) ?_
        refine r_getfr (pc := 73) (b := 9 + 3) cks dX11_fixed_73 fl_X11_117 rfl (kS0 hS) (ltS0 hS) (rS0_11 hS) ?_
        refine r_getfi (pc := 76) cks dX11_fixed_76 fl_X11_121 rfl (kS3 hS) (ltS (k := 3) hS (by omega)) ?_
        refine r_top (b := ((n : Nat) : Int)) (hstK.2.2.2.1.1.trans hNo.1.2.1) ?_
        refine r_icmp_ge (pc := 79) (tgt := 107) dX11_fixed_79 rfl (fun c79 => ?_) (fun c79 => ?_)
        · refine r_iload_n (pc := 107) (i := 2) dX11_fixed_107 rfl rfl ?_
          have hkn : k = n := by omega
          subst hkn
          have hv : fxA (rkD N k S Z Y) k x0 = (((fxP (rkD N k S Z Y).2.1 (rkD N k S Z Y).2.2.1 k (rkD N k S Z Y).1 k).1 : Nat) : Int) := by unfold fxA; rw [if_pos (by omega)]
          exact r_iret (pc := 108) dX11_fixed_108 trivial (by have h := hq1 (by omega) K hP.2.1; rw [hv] at h; exact h)
        · refine r_iload_n (pc := 82) (i := 2) dX11_fixed_82 rfl rfl ?_
          refine r_aload_n (pc := 83) (i := 0) dX11_fixed_83 rfl rfl ?_
          refine r_getfr (pc := 84) (b := 215) cks dX11_fixed_84 fl_X11_69 rfl (kK0 hK) (ltK hK (by decide)) (rK0_10 hK) ?_
          refine r_iload_n (pc := 87) (i := 3) dX11_fixed_87 rfl rfl ?_
          refine r_callV1 (pc := 88) (d - 1) [aI ((k : Nat) : Int)] dX11_fixed_88 (CV.mk2 mk_X8_holdsPlace lk_X11_274) (RC.of (ltZ0 (zK215 hK)) (kZ0 (zK215 hK)) (by decide) rfl) rfl rfl (by omega) (Nat.le_of_ble_eq_true rfl) (Nat.le_of_ble_eq_true rfl) (k_holdsPlace (n := n) (x := k) (Z := (rkD N n S Z Y).2.1) (Y := (rkD N n S Z Y).2.2.1) (S := (fxP (rkD N n S Z Y).2.1 (rkD N n S Z Y).2.2.1 n (rkD N n S Z Y).1 k).2) (zK215 hK) (by omega) hn2 (by omega) hP.2.2 (fun W => ?_))
          refine ⟨_, rfl, fun _ => ?_⟩
          refine r_if_eq (pc := 91) (tgt := 98) dX11_fixed_91 rfl (fun c91 => ?_) (fun c91 => ?_)
          · refine r_iconst (pc := 98) dX11_fixed_98 (in32_of rfl) ?_
            refine r_iaddN (pc := 99) (c := ((((fxP (rkD N n S Z Y).2.1 (rkD N n S Z Y).2.2.1 n (rkD N n S Z Y).1 k).1) : Nat) : Int)) dX11_fixed_99 (by unfold w32; omega) ?_
            refine r_istore_n (pc := 100) (i := 2) (lv' := [_, _, _, _]) dX11_fixed_100 rfl (by decide) rfl ?_
            refine r_iincN (pc := 101) (i := 3) (c := ((k + 1 : Nat) : Int)) (lv' := [_, _, _, _]) dX11_fixed_101 rfl (by decide) (by unfold w32; omega) rfl ?_
            refine r_goto (pc := 104) (tgt := 68) dX11_fixed_104 rfl ?_
            have hfs := fxP_s (rkD N n S Z Y).2.1 (rkD N n S Z Y).2.2.1 n (rkD N n S Z Y).1 k
            exact Ev.re (by rw [hfs, show (fxI (rkD N n S Z Y).2.1 (rkD N n S Z Y).2.2.1 (fxP (rkD N n S Z Y).2.1 (rkD N n S Z Y).2.2.1 n (rkD N n S Z Y).1 k).2 n k).toNat = 0 by rw [c91]; rfl]; rfl) rfl (ih (k + 1) (sr K (215 + 3) W) ⟨by omega, fun b hb => (sr_ne (by omega)).trans (hP.2.1 b hb), by rw [sr_ne (by omega), sr_ne (by omega)]; exact hP.2.2⟩ (by omega))
          · refine r_iconst (pc := 94) dX11_fixed_94 (in32_of rfl) ?_
            refine r_goto (pc := 95) (tgt := 99) dX11_fixed_95 rfl ?_
            refine r_iaddN (pc := 99) (c := ((((fxP (rkD N n S Z Y).2.1 (rkD N n S Z Y).2.2.1 n (rkD N n S Z Y).1 k).1) + 1 : Nat) : Int)) dX11_fixed_99 (by unfold w32; omega) ?_
            refine r_istore_n (pc := 100) (i := 2) (lv' := [_, _, _, _]) dX11_fixed_100 rfl (by decide) rfl ?_
            refine r_iincN (pc := 101) (i := 3) (c := ((k + 1 : Nat) : Int)) (lv' := [_, _, _, _]) dX11_fixed_101 rfl (by decide) (by unfold w32; omega) rfl ?_
            refine r_goto (pc := 104) (tgt := 68) dX11_fixed_104 rfl ?_
            have hfs := fxP_s (rkD N n S Z Y).2.1 (rkD N n S Z Y).2.2.1 n (rkD N n S Z Y).1 k
            exact Ev.re (by rw [hfs, show (fxI (rkD N n S Z Y).2.1 (rkD N n S Z Y).2.2.1 (fxP (rkD N n S Z Y).2.1 (rkD N n S Z Y).2.2.1 n (rkD N n S Z Y).1 k).2 n k).toNat = 1 by have h01 := fx_01 (rkD N n S Z Y).2.1 (rkD N n S Z Y).2.2.1 (fxP (rkD N n S Z Y).2.1 (rkD N n S Z Y).2.2.1 n (rkD N n S Z Y).1 k).2 n k; omega]) rfl (ih (k + 1) (sr K (215 + 3) W) ⟨by omega, fun b hb => (sr_ne (by omega)).trans (hP.2.1 b hb), by rw [sr_ne (by omega), sr_ne (by omega)]; exact hP.2.2⟩ (by omega))
      · obtain ⟨x, rfl⟩ : ∃ e : Nat, x0 = (e : Int) := ⟨(x0).toNat, by omega⟩
        refine r_aload_n (pc := 47) (i := 0) dX11_fixed_47 rfl rfl ?_
        refine r_getfr (pc := 48) (b := 215) cks dX11_fixed_48 fl_X11_69 rfl (kK0 hK) (ltK hK (by decide)) (rK0_10 hK) ?_
        refine r_iload_n (pc := 51) (i := 1) dX11_fixed_51 rfl rfl ?_
        refine r_callV1 (pc := 52) (d - 1) [aI ((x : Nat) : Int)] dX11_fixed_52 (CV.mk2 mk_X8_holdsPlace lk_X11_274) (RC.of (ltZ0 (zK215 hK)) (kZ0 (zK215 hK)) (by decide) rfl) rfl rfl (by omega) (Nat.le_of_ble_eq_true rfl) (Nat.le_of_ble_eq_true rfl) (k_holdsPlace (n := n) (x := x) (Z := (rkD N n S Z Y).2.1) (Y := (rkD N n S Z Y).2.2.1) (S := (rkD N n S Z Y).1) (zK215 hK) (by omega) hn2 (by omega) hs2.1 (fun W => ?_))
        refine ⟨_, rfl, fun _ => ?_⟩
        refine r_if_eq (pc := 55) (tgt := 62) dX11_fixed_55 rfl (fun c55 => ?_) (fun c55 => ?_)
        · refine r_iconst (pc := 62) dX11_fixed_62 (in32_of rfl) ?_
          have hv : fxA (rkD N n S Z Y) n ((x : Nat) : Int) = 0 := by have h01 := fx_01 (rkD N n S Z Y).2.1 (rkD N n S Z Y).2.2.1 (rkD N n S Z Y).1 n x; unfold fxA; rw [if_neg (by omega), if_pos (by omega), Int.toNat_natCast]; omega
          exact r_iret (pc := 63) dX11_fixed_63 trivial (by have h := hq1 (by omega) (sr K2 (215 + 3) W) (fun b hb => (sr_ne (by omega)).trans (hf2I b hb)); rw [hv] at h; exact h)
        · refine r_iconst (pc := 58) dX11_fixed_58 (in32_of rfl) ?_
          refine r_goto (pc := 59) (tgt := 63) dX11_fixed_59 rfl ?_
          have hv : fxA (rkD N n S Z Y) n ((x : Nat) : Int) = 1 := by have h01 := fx_01 (rkD N n S Z Y).2.1 (rkD N n S Z Y).2.2.1 (rkD N n S Z Y).1 n x; unfold fxA; rw [if_neg (by omega), if_pos (by omega), Int.toNat_natCast]; omega
          exact r_iret (pc := 63) dX11_fixed_63 trivial (by have h := hq1 (by omega) (sr K2 (215 + 3) W) (fun b hb => (sr_ne (by omega)).trans (hf2I b hb)); rw [hv] at h; exact h)
    · have c16 := bi_if.mp (Decidable.of_not_not c16)
      refine r_iconst (pc := 19) dX11_fixed_19 (in32_of rfl) ?_
      exact r_iret (pc := 20) dX11_fixed_20 trivial (hq0 (by omega))
theorem k_secret {A : AN} {L : Nat → Int} {p o t c q n : Nat} (hK : KSh T A) (hS : ShS T 9 p o t c) {b : Int} {l : Nat} {S Z Y : Nat → Int} (hd : 4 ≤ d) (hst : StR L I 9 p o t N) (htc : tN N ≤ c) (hNo : NOk N q n) (hl : N 6 = (l : Int)) (hl0 : N 0 = 5 → 0 < l) (hq0 : ¬ N 0 = 5 → Q (some (aI (-1))) T I) (hq1 : N 0 = 5 → ∀ K : Mi, (∀ b, b < 215 ∨ 215 + 4 ≤ b → K b = I b) → Q (some (aI (scA N n l (rkD N n S Z Y) b))) T K) : EvE G mX11_secret d [aR 0, aI b] T I Q := by
  have hn2 := hNo.1.2.2.1
  have h6r := ok_6.mp (hNo.1.1 6)
  have hl5 : N 0 = 5 → 0 < N 6 := fun h => by have := hl0 h; omega
  refine EvE.mk (lv0 := [some (aR 0), some (aI b), none]) (Nat.le_of_ble_eq_true rfl) (by decide +kernel) rfl ?_
  refine r_aload_n (pc := 0) (i := 0) dX11_secret_0 rfl rfl ?_
  refine r_getfr (pc := 1) (b := 9) cks dX11_secret_1 fl_X11_34 rfl (kK0 hK) (ltK hK (by decide)) (rK0_4 hK) ?_
  refine r_getfi (pc := 4) cks dX11_secret_4 fl_X11_126 rfl (kS0 hS) (ltS0 hS) ?_
  refine r_top (b := N 0) (hst.1.1) ?_
  refine r_iconst (pc := 7) dX11_secret_7 (in32_of rfl) ?_
  refine r_icmp_eq (pc := 8) (tgt := 13) dX11_secret_8 rfl (fun c8 => ?_) (fun c8 => ?_)
  · refine r_aload_n (pc := 13) (i := 0) dX11_secret_13 rfl rfl ?_
    refine r_getfr (pc := 14) (b := 215) cks dX11_secret_14 fl_X11_69 rfl (kK0 hK) (ltK hK (by decide)) (rK0_10 hK) ?_
    refine r_callV0 (pc := 17) (d - 1) [] dX11_secret_17 (CV.mk2 mk_X8_clear lk_X11_268) (RC.of (ltZ0 (zK215 hK)) (kZ0 (zK215 hK)) (by decide) rfl) rfl rfl (by omega) (Nat.le_of_ble_eq_true rfl) (Nat.le_of_ble_eq_true rfl) (k_spClear (n := n) (Z := Z) (Y := Y) (zK215 hK) (by omega) (fun K1 hf1 hs1 => ?_))
    refine ⟨rfl, fun _ => ?_⟩
    have hst1 := St_z hS hst hf1
    refine r_aload_n (pc := 20) (i := 0) dX11_secret_20 rfl rfl ?_
    refine r_getfr (pc := 21) (b := 215) cks dX11_secret_21 fl_X11_69 rfl (kK0 hK) (ltK hK (by decide)) (rK0_10 hK) ?_
    refine r_aload_n (pc := 24) (i := 0) dX11_secret_24 rfl rfl ?_
    refine r_getfr (pc := 25) (b := 9) cks dX11_secret_25 fl_X11_34 rfl (kK0 hK) (ltK hK (by decide)) (rK0_4 hK) ?_
    refine r_getfr (pc := 28) (b := 9 + 7) cks dX11_secret_28 fl_X11_210 rfl (kS0 hS) (ltS0 hS) (rS0_12 hS) ?_
    refine r_callV0 (pc := 31) (d - 1) [aR (9 + 7)] dX11_secret_31 (CV.mk2 mk_X8_addLedger lk_X11_269) (RC.of (ltZ0 (zK215 hK)) (kZ0 (zK215 hK)) (by decide) rfl) rfl rfl (by omega) (Nat.le_of_ble_eq_true rfl) (Nat.le_of_ble_eq_true rfl) (k_addLedger (n := n) (qq := q) (D := (S, Z, z8 Y 256, 0)) (zK215 hK) hS (by omega) (by omega) hNo.1 hNo.2.1 hst1.2.2.2.2.1 htc hs1 (fun K2 hf2 hs2 => ?_))
    refine ⟨rfl, fun _ => ?_⟩
    have hs2 : SpP K2 215 n (rkD N n S Z Y).2 := hs2
    have hf2I : ∀ b, b < 215 ∨ 215 + 4 ≤ b → K2 b = I b := fun b hb => (hf2 b hb).trans (hf1 b hb)
    have hst2 := St_z hS hst hf2I
    refine r_iload_n (pc := 34) (i := 1) dX11_secret_34 rfl rfl ?_
    refine r_if_eq (pc := 35) (tgt := 52) dX11_secret_35 rfl (fun c35 => ?_) (fun c35 => ?_)
    · obtain ⟨zz, hzz⟩ : ∃ zz, zz = (if b = 0 then 0 else n) := ⟨_, rfl⟩
      have hz0 : zz = 0 := by rw [hzz, if_pos (by omega)]
      have hsb : SpP K2 215 n (scD N n (rkD N n S Z Y) zz).2 := by rw [hz0]; exact hs2
      obtain ⟨KB, hKB⟩ : ∃ KB, KB = K2 := ⟨_, rfl⟩
      rw [← hKB] at hsb ⊢
      have hfB : ∀ b, b < 215 ∨ 215 + 4 ≤ b → KB b = I b := by rw [hKB]; exact hf2I
      have hstB := St_z hS hst hfB
      refine r_aload_n (pc := 52) (i := 0) dX11_secret_52 rfl rfl ?_
      refine r_getfr (pc := 53) (b := 215) cks dX11_secret_53 fl_X11_69 rfl (kK0 hK) (ltK hK (by decide)) (rK0_10 hK) ?_
      refine r_getfi (pc := 56) cks dX11_secret_56 fl_X11_273 rfl (kZ0 (zK215 hK)) (ltZ0 (zK215 hK)) ?_
      refine r_top (b := (scD N n (rkD N n S Z Y) zz).2.2.2) (hsb.2) ?_
      refine r_istore_n (pc := 59) (i := 2) (lv' := [_, _, _]) dX11_secret_59 rfl (by decide) rfl ?_
      refine r_aload_n (pc := 60) (i := 0) dX11_secret_60 rfl rfl ?_
      refine r_getfr (pc := 61) (b := 215) cks dX11_secret_61 fl_X11_69 rfl (kK0 hK) (ltK hK (by decide)) (rK0_10 hK) ?_
      refine r_aload_n (pc := 64) (i := 0) dX11_secret_64 rfl rfl ?_
      refine r_getfr (pc := 65) (b := 9) cks dX11_secret_65 fl_X11_34 rfl (kK0 hK) (ltK hK (by decide)) (rK0_4 hK) ?_
      refine r_getfr (pc := 68) (b := 9 + 11) cks dX11_secret_68 fl_X11_159 rfl (kS0 hS) (ltS0 hS) (rS0_13 hS) ?_
      refine r_aload_n (pc := 71) (i := 0) dX11_secret_71 rfl rfl ?_
      refine r_getfr (pc := 72) (b := 9) cks dX11_secret_72 fl_X11_34 rfl (kK0 hK) (ltK hK (by decide)) (rK0_4 hK) ?_
      refine r_getfr (pc := 75) (b := 9 + 3) cks dX11_secret_75 fl_X11_117 rfl (kS0 hS) (ltS0 hS) (rS0_11 hS) ?_
      refine r_getfi (pc := 78) cks dX11_secret_78 fl_X11_121 rfl (kS3 hS) (ltS (k := 3) hS (by omega)) ?_
      refine r_top (b := ((n : Nat) : Int)) (hstB.2.2.2.1.1.trans hNo.1.2.1) ?_
      refine r_callV0 (pc := 81) (d - 1) [aR (9 + 11), aI ((n : Nat) : Int)] dX11_secret_81 (CV.mk2 mk_X8_addFinals lk_X11_287) (RC.of (ltZ0 (zK215 hK)) (kZ0 (zK215 hK)) (by decide) rfl) rfl rfl (by omega) (Nat.le_of_ble_eq_true rfl) (Nat.le_of_ble_eq_true rfl) (k_addFinals (n := n) (l := l) (D := scD N n (rkD N n S Z Y) zz) (zK215 hK) hS (by omega) (by omega) hn2 hNo.1.1 (hstB.2.2.2.2.2.1.trans hl) (by omega) (fun i hi => hstB.2.2.2.2.2.2.2.2.2.2 (by omega) i (by rw [hNo.1.nn, hl]; omega)) hsb (fun K4 hf4 hs4 => ?_))
      refine ⟨rfl, fun _ => ?_⟩
      refine r_aload_n (pc := 84) (i := 0) dX11_secret_84 rfl rfl ?_
      refine r_getfr (pc := 85) (b := 215) cks dX11_secret_85 fl_X11_69 rfl (kK0 hK) (ltK hK (by decide)) (rK0_10 hK) ?_
      refine r_getfi (pc := 88) cks dX11_secret_88 fl_X11_273 rfl (kZ0 (zK215 hK)) (ltZ0 (zK215 hK)) ?_
      refine r_top (b := (seD N n (scD N n (rkD N n S Z Y) zz) l).2.2.2) (hs4.2) ?_
      refine r_iload_n (pc := 91) (i := 2) dX11_secret_91 rfl rfl ?_
      refine r_isubN (pc := 92) (c := (w32 ((seD N n (scD N n (rkD N n S Z Y) zz) l).2.2.2 - (scD N n (rkD N n S Z Y) zz).2.2.2))) dX11_secret_92 rfl ?_
      have hv : scA N n l (rkD N n S Z Y) b = w32 ((seD N n (scD N n (rkD N n S Z Y) zz) l).2.2.2 - (scD N n (rkD N n S Z Y) zz).2.2.2) := by unfold scA; rw [if_pos (by omega), ← hzz]
      exact r_iret (pc := 93) dX11_secret_93 trivial (by have h := hq1 (by omega) K4 (fun b hb => (hf4 b hb).trans (hfB b hb)); rw [hv] at h; exact h)
    · refine r_aload_n (pc := 38) (i := 0) dX11_secret_38 rfl rfl ?_
      refine r_getfr (pc := 39) (b := 215) cks dX11_secret_39 fl_X11_69 rfl (kK0 hK) (ltK hK (by decide)) (rK0_10 hK) ?_
      refine r_aload_n (pc := 42) (i := 0) dX11_secret_42 rfl rfl ?_
      refine r_getfr (pc := 43) (b := 9) cks dX11_secret_43 fl_X11_34 rfl (kK0 hK) (ltK hK (by decide)) (rK0_4 hK) ?_
      refine r_getfr (pc := 46) (b := 9 + 3) cks dX11_secret_46 fl_X11_117 rfl (kS0 hS) (ltS0 hS) (rS0_11 hS) ?_
      refine r_callV0 (pc := 49) (d - 1) [aR (9 + 3)] dX11_secret_49 (CV.mk2 mk_X8_addKnown lk_X11_283) (RC.of (ltZ0 (zK215 hK)) (kZ0 (zK215 hK)) (by decide) rfl) rfl rfl (by omega) (Nat.le_of_ble_eq_true rfl) (Nat.le_of_ble_eq_true rfl) (k_addKnown (n := n) (D := rkD N n S Z Y) (zK215 hK) hS (by omega) (by omega) (hst2.2.2.2.1.1.trans hNo.1.2.1) hn2 (fun k hk => (hst2.2.2.2.1.2 k (by rw [hNo.1.nn]; exact hk)).2.2) hs2 (fun K3 hf3 hs3 => ?_))
      refine ⟨rfl, fun _ => ?_⟩
      have hf3I : ∀ b, b < 215 ∨ 215 + 4 ≤ b → K3 b = I b := fun b hb => (hf3 b hb).trans (hf2I b hb)
      have hst3 := St_z hS hst hf3I
      obtain ⟨zz, hzz⟩ : ∃ zz, zz = (if b = 0 then 0 else n) := ⟨_, rfl⟩
      have hz0 : zz = n := by rw [hzz, if_neg (by omega)]
      have hsb : SpP K3 215 n (scD N n (rkD N n S Z Y) zz).2 := by rw [hz0]; exact hs3
      obtain ⟨KB, hKB⟩ : ∃ KB, KB = K3 := ⟨_, rfl⟩
      rw [← hKB] at hsb ⊢
      have hfB : ∀ b, b < 215 ∨ 215 + 4 ≤ b → KB b = I b := by rw [hKB]; exact hf3I
      have hstB := St_z hS hst hfB
      refine r_aload_n (pc := 52) (i := 0) dX11_secret_52 rfl rfl ?_
      refine r_getfr (pc := 53) (b := 215) cks dX11_secret_53 fl_X11_69 rfl (kK0 hK) (ltK hK (by decide)) (rK0_10 hK) ?_
      refine r_getfi (pc := 56) cks dX11_secret_56 fl_X11_273 rfl (kZ0 (zK215 hK)) (ltZ0 (zK215 hK)) ?_
      refine r_top (b := (scD N n (rkD N n S Z Y) zz).2.2.2) (hsb.2) ?_
      refine r_istore_n (pc := 59) (i := 2) (lv' := [_, _, _]) dX11_secret_59 rfl (by decide) rfl ?_
      refine r_aload_n (pc := 60) (i := 0) dX11_secret_60 rfl rfl ?_
      refine r_getfr (pc := 61) (b := 215) cks dX11_secret_61 fl_X11_69 rfl (kK0 hK) (ltK hK (by decide)) (rK0_10 hK) ?_
      refine r_aload_n (pc := 64) (i := 0) dX11_secret_64 rfl rfl ?_
      refine r_getfr (pc := 65) (b := 9) cks dX11_secret_65 fl_X11_34 rfl (kK0 hK) (ltK hK (by decide)) (rK0_4 hK) ?_
      refine r_getfr (pc := 68) (b := 9 + 11) cks dX11_secret_68 fl_X11_159 rfl (kS0 hS) (ltS0 hS) (rS0_13 hS) ?_
      refine r_aload_n (pc := 71) (i := 0) dX11_secret_71 rfl rfl ?_
      refine r_getfr (pc := 72) (b := 9) cks dX11_secret_72 fl_X11_34 rfl (kK0 hK) (ltK hK (by decide)) (rK0_4 hK) ?_
      refine r_getfr (pc := 75) (b := 9 + 3) cks dX11_secret_75 fl_X11_117 rfl (kS0 hS) (ltS0 hS) (rS0_11 hS) ?_
      refine r_getfi (pc := 78) cks dX11_secret_78 fl_X11_121 rfl (kS3 hS) (ltS (k := 3) hS (by omega)) ?_
      refine r_top (b := ((n : Nat) : Int)) (hstB.2.2.2.1.1.trans hNo.1.2.1) ?_
      refine r_callV0 (pc := 81) (d - 1) [aR (9 + 11), aI ((n : Nat) : Int)] dX11_secret_81 (CV.mk2 mk_X8_addFinals lk_X11_287) (RC.of (ltZ0 (zK215 hK)) (kZ0 (zK215 hK)) (by decide) rfl) rfl rfl (by omega) (Nat.le_of_ble_eq_true rfl) (Nat.le_of_ble_eq_true rfl) (k_addFinals (n := n) (l := l) (D := scD N n (rkD N n S Z Y) zz) (zK215 hK) hS (by omega) (by omega) hn2 hNo.1.1 (hstB.2.2.2.2.2.1.trans hl) (by omega) (fun i hi => hstB.2.2.2.2.2.2.2.2.2.2 (by omega) i (by rw [hNo.1.nn, hl]; omega)) hsb (fun K4 hf4 hs4 => ?_))
      refine ⟨rfl, fun _ => ?_⟩
      refine r_aload_n (pc := 84) (i := 0) dX11_secret_84 rfl rfl ?_
      refine r_getfr (pc := 85) (b := 215) cks dX11_secret_85 fl_X11_69 rfl (kK0 hK) (ltK hK (by decide)) (rK0_10 hK) ?_
      refine r_getfi (pc := 88) cks dX11_secret_88 fl_X11_273 rfl (kZ0 (zK215 hK)) (ltZ0 (zK215 hK)) ?_
      refine r_top (b := (seD N n (scD N n (rkD N n S Z Y) zz) l).2.2.2) (hs4.2) ?_
      refine r_iload_n (pc := 91) (i := 2) dX11_secret_91 rfl rfl ?_
      refine r_isubN (pc := 92) (c := (w32 ((seD N n (scD N n (rkD N n S Z Y) zz) l).2.2.2 - (scD N n (rkD N n S Z Y) zz).2.2.2))) dX11_secret_92 rfl ?_
      have hv : scA N n l (rkD N n S Z Y) b = w32 ((seD N n (scD N n (rkD N n S Z Y) zz) l).2.2.2 - (scD N n (rkD N n S Z Y) zz).2.2.2) := by unfold scA; rw [if_pos (by omega), ← hzz]
      exact r_iret (pc := 93) dX11_secret_93 trivial (by have h := hq1 (by omega) K4 (fun b hb => (hf4 b hb).trans (hfB b hb)); rw [hv] at h; exact h)
  · refine r_iconst (pc := 11) dX11_secret_11 (in32_of rfl) ?_
    exact r_iret (pc := 12) dX11_secret_12 trivial (hq0 (by omega))
end C60
