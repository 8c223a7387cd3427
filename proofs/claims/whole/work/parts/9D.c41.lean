section C41
variable {G : Gl} {d : Nat} {T : Sh} {I : Mi} {N : Nat → Int} {Q : Option AV → Sh → Mi → Prop}
abbrev RZ := (Nat → Int) × (Nat → Int) × Nat
theorem k_reduceWork {z n : Nat} {Z Y S0 : Nat → Int} (hZ : ShZ T z) (hd : 1 ≤ d) (hn : n ≤ 256) (hW : WkP (I (z + 3)) S0) (hhi : hiP S0 n) (hB : BsP (I (z + 1)) (I (z + 2)) n Z Y) (hq0 : (rdF Z Y n 0 S0).1 = 0 → ∀ W, WkP W (rdF Z Y n 0 S0).2 → Q (some (aI (-1))) T (sr I (z + 3) W)) (hq1 : ∀ q : Nat, (rdF Z Y n 0 S0).1 = 1 → q < n → sb (rdF Z Y n 0 S0).2 q = true → (∀ j, j < q → sb (rdF Z Y n 0 S0).2 j = false) → hiP (rdF Z Y n 0 S0).2 n → ∀ W, WkP W (rdF Z Y n 0 S0).2 → Q (some (aI (q : Int))) T (sr I (z + 3) W)) : EvE G mX8_reduceWork d [aR z] T I Q := by
  refine EvE.mk (lv0 := [some (aR z), none, none, none, none]) (Nat.le_of_ble_eq_true rfl) (by decide +kernel) rfl ?_
  refine r_iconst (pc := 0) dX8_reduceWork_0 (in32_of rfl) ?_
  refine r_istore_n (pc := 1) (i := 1) (lv' := [_, _, _, _, _]) dX8_reduceWork_1 rfl (by decide) rfl ?_
  refine r_mem (I2 := sr I (z + 3) (I (z + 3))) (((congrArg (fun f_ => sr I (z + 3) f_) (show I (z + 3) = I (z + 3) from rfl)).symm.trans (sr_id _ _)).symm) ?_
  refine loop2 (fun (w : Nat) (E : RZ) => w ≤ 4 ∧ rsI Z Y S0 n w E.2.2 E.1 E.2.1) (fun (w : Nat) (E : RZ) => 4 - w) (fun (w : Nat) (E : RZ) => [some (aR z), some (aI ((w : Nat) : Int)), none, none, none]) (fun _ _ => T) (fun (w : Nat) (E : RZ) => sr I (z + 3) E.1) ?_ 0 (I (z + 3), S0, 0) ⟨Nat.zero_le _, ⟨rfl, hW, fun q h => absurd h (Nat.not_lt_zero q), hhi, Nat.zero_le _⟩⟩
  intro w E hP ih
  have hP : w ≤ 4 ∧ rsI Z Y S0 n w E.2.2 E.1 E.2.1 := hP
  refine (?_ : Ev G mX8_reduceWork d 2 [some (aR z), some (aI ((w : Nat) : Int)), none, none, none] [] T (sr I (z + 3) E.1) Q)
  refine r_iload_n (pc := 2) (i := 1) dX8_reduceWork_2 rfl rfl ?_
  refine r_iconst (pc := 3) dX8_reduceWork_3 (in32_of rfl) ?_
  refine r_icmp_ge (pc := 4) (tgt := 110) dX8_reduceWork_4 rfl (fun c4 => ?_) (fun c4 => ?_)
  · refine r_iconst (pc := 110) dX8_reduceWork_110 (in32_of rfl) ?_
    obtain ⟨hr, hw2, hz2, hh2, hp2⟩ := hP.2
    rw [show n - E.2.2 = 0 by omega] at hr
    have h1 : (rdF Z Y n 0 S0).1 = 0 := by rw [← hr]; rfl
    have h2 : (rdF Z Y n 0 S0).2 = E.2.1 := by rw [← hr]; rfl
    exact r_iret (pc := 111) dX8_reduceWork_111 trivial (hq0 h1 E.1 (by rw [h2]; exact hw2))
  · refine r_iconst (pc := 7) dX8_reduceWork_7 (in32_of rfl) ?_
    refine r_istore_n (pc := 8) (i := 2) (lv' := [_, _, _, _, _]) dX8_reduceWork_8 rfl (by decide) rfl ?_
    refine loop2 (fun (u : Nat) (E2 : RZ) => u ≤ 64 ∧ rsI Z Y S0 n w E2.2.2 E2.1 E2.2.1 ∧ 64 * w + u ≤ E2.2.2) (fun (u : Nat) (E2 : RZ) => 64 - u) (fun (u : Nat) (E2 : RZ) => [some (aR z), some (aI ((w : Nat) : Int)), some (aI ((u : Nat) : Int)), none, none]) (fun _ _ => T) (fun (u : Nat) (E2 : RZ) => sr I (z + 3) E2.1) ?_ 0 E ⟨Nat.zero_le _, hP.2, hP.2.2.2.2.2⟩
    intro u E2 hP2 ih2
    have hP2 : u ≤ 64 ∧ rsI Z Y S0 n w E2.2.2 E2.1 E2.2.1 ∧ 64 * w + u ≤ E2.2.2 := hP2
    refine (?_ : Ev G mX8_reduceWork d 9 [some (aR z), some (aI ((w : Nat) : Int)), some (aI ((u : Nat) : Int)), none, none] [] T (sr I (z + 3) E2.1) Q)
    refine r_iload_n (pc := 9) (i := 2) dX8_reduceWork_9 rfl rfl ?_
    refine r_bipush (pc := 10) dX8_reduceWork_10 rfl (in32_of rfl) ?_
    refine r_icmp_ge (pc := 12) (tgt := 104) dX8_reduceWork_12 rfl (fun c12 => ?_) (fun c12 => ?_)
    · refine r_iincN (pc := 104) (i := 1) (c := ((w + 1 : Nat) : Int)) (lv' := [_, _, _, _, _]) dX8_reduceWork_104 rfl (by decide) (by unfold w32; omega) rfl ?_
      refine r_goto (pc := 107) (tgt := 2) dX8_reduceWork_107 rfl ?_
      refine Ev.weak (lv2 := [some (aR z), some (aI ((w + 1 : Nat) : Int)), none, none, none]) ⟨Or.inr rfl, Or.inr rfl, Or.inl rfl, Or.inl rfl, Or.inl rfl, trivial⟩ ?_
      obtain ⟨p2, hp2⟩ := rs_word hP2.2.1 (by omega) (Or.inr (by omega))
      exact ih (w + 1) (E2.1, E2.2.1, p2) ⟨by omega, hp2⟩ (by omega)
    · refine r_aload_n (pc := 15) (i := 0) dX8_reduceWork_15 rfl rfl ?_
      refine r_getfr (pc := 16) (b := z + 3) cks dX8_reduceWork_16 fl_X8_19 rfl (kZ0 hZ) (ltZ0 hZ) (rZ0_2 hZ) ?_
      refine r_iload_n (pc := 19) (i := 1) dX8_reduceWork_19 rfl rfl ?_
      refine r_lld (pc := 20) (w) dX8_reduceWork_20 (kZ3 hZ) (ltZ (k := 3) hZ (by omega)) rfl (by rw [lZ3 hZ]; omega) ?_
      refine r_topL (b := E2.1 w) (sr_at _ _ _ _) ?_
      refine r_lconst (pc := 21) (z := 0) dX8_reduceWork_21 rfl (in64_of rfl) ?_
      refine r_lcmp (pc := 22) dX8_reduceWork_22 ?_
      refine r_if_eq (pc := 23) (tgt := 104) dX8_reduceWork_23 rfl (fun c23 => ?_) (fun c23 => ?_)
      · refine r_iincN (pc := 104) (i := 1) (c := ((w + 1 : Nat) : Int)) (lv' := [_, _, _, _, _]) dX8_reduceWork_104 rfl (by decide) (by unfold w32; omega) rfl ?_
        refine r_goto (pc := 107) (tgt := 2) dX8_reduceWork_107 rfl ?_
        refine Ev.weak (lv2 := [some (aR z), some (aI ((w + 1 : Nat) : Int)), none, none, none]) ⟨Or.inr rfl, Or.inr rfl, Or.inl rfl, Or.inl rfl, Or.inl rfl, trivial⟩ ?_
        obtain ⟨p2, hp2⟩ := rs_word hP2.2.1 (by omega) (Or.inl ((lcp_0 _).mp c23))
        exact ih (w + 1) (E2.1, E2.2.1, p2) ⟨by omega, hp2⟩ (by omega)
      · refine Ev.fw (fun _ hwf => ?_)
        have h64 : in64 (E2.1 w) := by have h := (hwf (z + 3) (ltZ hZ (by omega))).1 w; rw [if_pos (kZ3 hZ), sr_at] at h; exact h
        obtain ⟨i, hi, hbi, hli⟩ := low_x h64 (fun h => c23 ((lcp_0 _).mpr h))
        have hlo0 := rs_low hP2.2.1 (by omega) hi hbi hli
        refine r_bipush (pc := 26) dX8_reduceWork_26 rfl (in32_of rfl) ?_
        refine r_iload_n (pc := 28) (i := 1) dX8_reduceWork_28 rfl rfl ?_
        refine r_imulN (pc := 29) (c := ((64 * w : Nat) : Int)) dX8_reduceWork_29 (by unfold w32; omega) ?_
        refine r_aload_n (pc := 30) (i := 0) dX8_reduceWork_30 rfl rfl ?_
        refine r_getfr (pc := 31) (b := z + 3) cks dX8_reduceWork_31 fl_X8_19 rfl (kZ0 hZ) (ltZ0 hZ) (rZ0_2 hZ) ?_
        refine r_iload_n (pc := 34) (i := 1) dX8_reduceWork_34 rfl rfl ?_
        refine r_lld (pc := 35) (w) dX8_reduceWork_35 (kZ3 hZ) (ltZ (k := 3) hZ (by omega)) rfl (by rw [lZ3 hZ]; omega) ?_
        refine r_topL (b := E2.1 w) (sr_at _ _ _ _) ?_
        refine r_aload_n (pc := 36) (i := 0) dX8_reduceWork_36 rfl rfl ?_
        refine r_getfr (pc := 37) (b := z + 3) cks dX8_reduceWork_37 fl_X8_19 rfl (kZ0 hZ) (ltZ0 hZ) (rZ0_2 hZ) ?_
        refine r_iload_n (pc := 40) (i := 1) dX8_reduceWork_40 rfl rfl ?_
        refine r_lld (pc := 41) (w) dX8_reduceWork_41 (kZ3 hZ) (ltZ (k := 3) hZ (by omega)) rfl (by rw [lZ3 hZ]; omega) ?_
        refine r_topL (b := E2.1 w) (sr_at _ _ _ _) ?_
        refine r_lneg (pc := 42) dX8_reduceWork_42 ?_
        refine r_land (pc := 43) dX8_reduceWork_43 ?_
        refine r_lconst (pc := 44) (z := 1) dX8_reduceWork_44 rfl (in64_of rfl) ?_
        refine r_lsub (pc := 45) dX8_reduceWork_45 ?_
        refine r_callS1 (pc := 46) (d - 1) [aL (w64 ((lan (E2.1 w) (w64 (-(E2.1 w)))) - 1))] dX8_reduceWork_46 (CS.mk2 mk_J13_bitCount_95d88 lk_X8_80) rfl rfl (by omega) (Nat.le_of_ble_eq_true rfl) (Nat.le_of_ble_eq_true rfl) (k_bitCount ?_)
        refine ⟨_, rfl, fun _ => ?_⟩
        refine r_top (b := ((i : Nat) : Int)) (by rw [low_bit hi hbi hli]) ?_
        refine r_iaddN (pc := 49) (c := ((64 * w + i : Nat) : Int)) dX8_reduceWork_49 (by unfold w32; omega) ?_
        obtain ⟨q, hqe⟩ : ∃ q : Nat, q = 64 * w + i := ⟨_, rfl⟩
        rw [← hqe]
        rw [← hqe] at hlo0
        have hlo := hlo0
        have hq256 : q < 256 := by omega
        refine r_istore_n (pc := 50) (i := 3) (lv' := [_, _, _, _, _]) dX8_reduceWork_50 rfl (by decide) rfl ?_
        refine r_aload_n (pc := 51) (i := 0) dX8_reduceWork_51 rfl rfl ?_
        refine r_getfr (pc := 52) (b := z + 2) cks dX8_reduceWork_52 fl_X8_15 rfl (kZ0 hZ) (ltZ0 hZ) (rZ0_1 hZ) ?_
        refine r_iload_n (pc := 55) (i := 3) dX8_reduceWork_55 rfl rfl ?_
        refine r_ild (pc := 56) (q) dX8_reduceWork_56 (kZ2 hZ) (ltZ (k := 2) hZ (by omega)) rfl (by rw [lZ2 hZ]; omega) ?_
        refine r_top (b := I (z + 2) q) ((congrFun (sr_ne (by omega)) _).trans (rfl)) ?_
        refine r_if_ne (pc := 57) (tgt := 62) dX8_reduceWork_57 rfl (fun c57 => ?_) (fun c57 => ?_)
        · refine r_iload_n (pc := 62) (i := 1) dX8_reduceWork_62 rfl rfl ?_
          refine r_istore (pc := 63) (i := 4) (lv' := [_, _, _, _, _]) dX8_reduceWork_63 (by decide) rfl ?_
          refine r_mem (I2 := sr I (z + 3) (xwF E2.1 (I (z + 1)) q w w)) (by rw [xwF_0]) ?_
          refine loop1 (fun (k : Nat) => w ≤ k ∧ k ≤ 4) (fun (k : Nat) => 4 - k) (fun (k : Nat) => [some (aR z), some (aI ((w : Nat) : Int)), some (aI ((u : Nat) : Int)), some (aI ((q : Nat) : Int)), some (aI ((k : Nat) : Int))]) (fun _ => T) (fun (k : Nat) => sr I (z + 3) (xwF E2.1 (I (z + 1)) q w k)) ?_ w ⟨Nat.le_refl _, by omega⟩
          intro k hP3 ih3
          have hP3 : w ≤ k ∧ k ≤ 4 := hP3
          refine (?_ : Ev G mX8_reduceWork d 65 [some (aR z), some (aI ((w : Nat) : Int)), some (aI ((u : Nat) : Int)), some (aI ((q : Nat) : Int)), some (aI ((k : Nat) : Int))] [] T (sr I (z + 3) (xwF E2.1 (I (z + 1)) q w k)) Q)
          refine r_iload (pc := 65) (i := 4) dX8_reduceWork_65 rfl ?_
          refine r_iconst (pc := 67) dX8_reduceWork_67 (in32_of rfl) ?_
          refine r_icmp_ge (pc := 68) (tgt := 98) dX8_reduceWork_68 rfl (fun c68 => ?_) (fun c68 => ?_)
          · have hk4 : k = 4 := by omega
            subst hk4
            refine r_iincN (pc := 98) (i := 2) (c := ((u + 1 : Nat) : Int)) (lv' := [_, _, _, _, _]) dX8_reduceWork_98 rfl (by decide) (by unfold w32; omega) rfl ?_
            refine r_goto (pc := 101) (tgt := 9) dX8_reduceWork_101 rfl ?_
            refine Ev.weak (lv2 := [some (aR z), some (aI ((w : Nat) : Int)), some (aI ((u + 1 : Nat) : Int)), none, none]) ⟨Or.inr rfl, Or.inr rfl, Or.inr rfl, Or.inl rfl, Or.inl rfl, trivial⟩ ?_
            exact ih2 (u + 1) (xwF E2.1 (I (z + 1)) q w 4, xrS E2.2.1 Z q 8, q + 1) ⟨by omega, rs_xor hlo.1 hB (by omega) hlo.2.2.1 hn (by omega) hlo.2.2.2 c57, show 64 * w + (u + 1) ≤ q + 1 by omega⟩ (by omega)
          · refine r_aload_n (pc := 71) (i := 0) dX8_reduceWork_71 rfl rfl ?_
            refine r_getfr (pc := 72) (b := z + 3) cks dX8_reduceWork_72 fl_X8_19 rfl (kZ0 hZ) (ltZ0 hZ) (rZ0_2 hZ) ?_
            refine r_iload (pc := 75) (i := 4) dX8_reduceWork_75 rfl ?_
            refine r_dup2 (pc := 77) dX8_reduceWork_77 rfl rfl ?_
            refine r_lld (pc := 78) (k) dX8_reduceWork_78 (kZ3 hZ) (ltZ (k := 3) hZ (by omega)) rfl (by rw [lZ3 hZ]; omega) ?_
            refine r_topL (b := (xwF E2.1 (I (z + 1)) q w k) k) (sr_at _ _ _ _) ?_
            refine r_topL (b := E2.1 k) (xwF_k _ _ _ _ _) ?_
            refine r_aload_n (pc := 79) (i := 0) dX8_reduceWork_79 rfl rfl ?_
            refine r_getfr (pc := 80) (b := z + 1) cks dX8_reduceWork_80 fl_X8_9 rfl (kZ0 hZ) (ltZ0 hZ) (rZ0_0 hZ) ?_
            refine r_iload_n (pc := 83) (i := 3) dX8_reduceWork_83 rfl rfl ?_
            refine r_iconst (pc := 84) dX8_reduceWork_84 (in32_of rfl) ?_
            refine r_imulN (pc := 85) (c := ((4 * q : Nat) : Int)) dX8_reduceWork_85 (by unfold w32; omega) ?_
            refine r_iload (pc := 86) (i := 4) dX8_reduceWork_86 rfl ?_
            refine r_iaddN (pc := 88) (c := ((4 * q + k : Nat) : Int)) dX8_reduceWork_88 (by unfold w32; omega) ?_
            refine r_lld (pc := 89) (4 * q + k) dX8_reduceWork_89 (kZ1 hZ) (ltZ (k := 1) hZ (by omega)) rfl (by rw [lZ1 hZ]; omega) ?_
            refine r_topL (b := I (z + 1) (4 * q + k)) ((congrFun (sr_ne (by omega)) _).trans (rfl)) ?_
            refine r_lxor (pc := 90) dX8_reduceWork_90 ?_
            refine r_lst (pc := 91) (k) dX8_reduceWork_91 (kZ3 hZ) (ltZ (k := 3) hZ (by omega)) rfl (by rw [lZ3 hZ]; omega) ?_
            refine r_mem (I2 := sr I (z + 3) (un (xwF E2.1 (I (z + 1)) q w k) k (lxo (E2.1 k) (I (z + 1) (4 * q + k))))) ((up2_row _ _ _ _).trans ((congrArg (fun fz_ => sr (sr I (z + 3) (xwF E2.1 (I (z + 1)) q w k)) (z + 3) (un fz_ k (lxo (E2.1 k) (I (z + 1) (4 * q + k))))) (show (sr I (z + 3) (xwF E2.1 (I (z + 1)) q w k)) (z + 3) = xwF E2.1 (I (z + 1)) q w k from sr_row _ _ _)).trans (sr_sr _ _ _ _))) ?_
            refine r_iincN (pc := 92) (i := 4) (c := ((k + 1 : Nat) : Int)) (lv' := [_, _, _, _, _]) dX8_reduceWork_92 rfl (by decide) (by unfold w32; omega) rfl ?_
            refine r_goto (pc := 95) (tgt := 65) dX8_reduceWork_95 rfl ?_
            exact Ev.re rfl (by rw [xwF_s hP3.1]) (ih3 (k + 1) ⟨by omega, by omega⟩ (by omega))
        · have c57 := Decidable.of_not_not c57
          refine r_iload_n (pc := 60) (i := 3) dX8_reduceWork_60 rfl rfl ?_
          obtain ⟨hr, hw2, hz2, hh2, hp2⟩ := hlo.1
          have hy : Y q = 0 := (hB q hq256).1.mp c57
          rw [show n - q = (n - (q + 1)) + 1 by omega, rdF_succ, if_pos (inS_1.mpr hlo.2.2.2), if_pos hy] at hr
          have h1 : (rdF Z Y n 0 S0).1 = 1 := by rw [← hr]
          have h2 : (rdF Z Y n 0 S0).2 = E2.2.1 := by rw [← hr]
          exact r_iret (pc := 61) dX8_reduceWork_61 trivial (hq1 q h1 hlo.2.2.1 (by rw [h2]; exact hlo.2.2.2) (fun j hj => by rw [h2]; exact hz2 j hj (by omega)) (by rw [h2]; exact hh2) E2.1 (by rw [h2]; exact hw2))
end C41
