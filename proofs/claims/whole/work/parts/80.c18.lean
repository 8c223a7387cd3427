section C18
variable {G : Gl} {d : Nat} {T : Sh} {I : Mi} {N : Nat → Int} {Q : Option AV → Sh → Mi → Prop}
def ecF (B : Nat) : F3 → Int
  | none => -1
  | some t => ((128 * t.2.1 + t.2.2 / (B * 2 ^ t.2.1) : Nat) : Int)
theorem fdT_eq (N : Nat → Int) (B n p b : Nat) (o : F3) : fdT N B n p b o = if bst o ≤ lnB n (B * 2 ^ p) b then o else if ukO N p b (lnB n (B * 2 ^ p) b) = 1 then some (lnB n (B * 2 ^ p) b, p, b) else o := rfl
theorem k_shortestOdd {m n B q0 ka a : Nat} {M : Nat → Int} (hD : ShD T m) (hd : 2 ≤ d) (hn2 : n ≤ 256) (hB1 : 2 ≤ B) (hB2 : B ≤ 64) (hq6 : q0 < 6) (hmB : I m 3 = (B : Int)) (hmq : I m 4 = (q0 : Int)) (hma : I m 5 = (ka : Int)) (hka : nbk a (B * 2 ^ q0) = ka) (hkn : ka ≤ nbk n (B * 2 ^ q0)) (hOd : OdR (I (m + 2)) M B n q0) (hq : Q (some (aI (ecF B (fdF M B n q0 a)))) T I) : EvE G mX5_shortestOdd d [aR m, aI ((n : Nat) : Int)] T I Q := by
  refine EvE.mk (lv0 := [some (aR m), some (aI ((n : Nat) : Int)), none, none, none, none, none, none]) (Nat.le_of_ble_eq_true rfl) (by decide +kernel) rfl ?_
  refine r_iconst (pc := 0) dX5_shortestOdd_0 (in32_of rfl) ?_
  refine r_istore_n (pc := 1) (i := 2) (lv' := [_, _, _, _, _, _, _, _]) dX5_shortestOdd_1 rfl (by decide) rfl ?_
  refine r_sipush (pc := 2) dX5_shortestOdd_2 rfl (in32_of rfl) ?_
  refine r_istore_n (pc := 5) (i := 3) (lv' := [_, _, _, _, _, _, _, _]) dX5_shortestOdd_5 rfl (by decide) rfl ?_
  refine r_iconst (pc := 6) dX5_shortestOdd_6 (in32_of rfl) ?_
  refine r_istore (pc := 7) (i := 4) (lv' := [_, _, _, _, _, _, _, _]) dX5_shortestOdd_7 (by decide) rfl ?_
  refine loop1 (fun (p : Nat) => p ≤ q0 + 1) (fun (p : Nat) => q0 + 1 - p) (fun (p : Nat) => [some (aR m), some (aI ((n : Nat) : Int)), some (aI (ecF B (fdP M B n q0 a p))), some (aI (((bst (fdP M B n q0 a p)) : Nat) : Int)), some (aI ((p : Nat) : Int)), none, none, none]) (fun _ => T) (fun (p : Nat) => I) ?_ 0 (Nat.zero_le _)
  intro p hP ih
  have hP : p ≤ q0 + 1 := hP
  refine (?_ : Ev G mX5_shortestOdd d 9 [some (aR m), some (aI ((n : Nat) : Int)), some (aI (ecF B (fdP M B n q0 a p))), some (aI (((bst (fdP M B n q0 a p)) : Nat) : Int)), some (aI ((p : Nat) : Int)), none, none, none] [] T I Q)
  refine r_iload (pc := 9) (i := 4) dX5_shortestOdd_9 rfl ?_
  refine r_aload_n (pc := 11) (i := 0) dX5_shortestOdd_11 rfl rfl ?_
  refine r_getfi (pc := 12) cks dX5_shortestOdd_12 fl_X5_26 rfl (kD0 hD) (ltD0 hD) ?_
  refine r_top (b := (q0 : Int)) (hmq) ?_
  refine r_icmp_gt (pc := 15) (tgt := 120) dX5_shortestOdd_15 rfl (fun c15 => ?_) (fun c15 => ?_)
  · refine r_iload_n (pc := 120) (i := 2) dX5_shortestOdd_120 rfl rfl ?_
    exact r_iret (pc := 121) dX5_shortestOdd_121 trivial (by have e : p = q0 + 1 := (by omega); subst e; exact hq)
  · have hz2 : B * 2 ^ p ≤ 2048 := pw_le hB2 (by omega)
    have hz0 : 0 < B * 2 ^ p := Nat.mul_pos (by omega) (Nat.two_pow_pos p)
    have hen : nbk (endO n q0 a p) (B * 2 ^ p) ≤ nbk n (B * 2 ^ p) := by unfold endO; by_cases g : p < q0; (rw [if_pos g]; exact Nat.le_refl _); (rw [if_neg g]; have e : p = q0 := (by omega); subst e; rw [hka]; exact hkn)
    skip
    refine r_iload (pc := 18) (i := 4) dX5_shortestOdd_18 rfl ?_
    refine r_aload_n (pc := 20) (i := 0) dX5_shortestOdd_20 rfl rfl ?_
    refine r_getfi (pc := 21) cks dX5_shortestOdd_21 fl_X5_26 rfl (kD0 hD) (ltD0 hD) ?_
    refine r_top (b := (q0 : Int)) (hmq) ?_
    refine r_icmp_ge (pc := 24) (tgt := 41) dX5_shortestOdd_24 rfl (fun c24 => ?_) (fun c24 => ?_)
    · refine r_aload_n (pc := 41) (i := 0) dX5_shortestOdd_41 rfl rfl ?_
      refine r_getfi (pc := 42) cks dX5_shortestOdd_42 fl_X5_29 rfl (kD0 hD) (ltD0 hD) ?_
      refine r_top (b := (ka : Int)) (hma) ?_
      refine r_top (b := ((nbk (endO n q0 a p) (B * 2 ^ p) : Nat) : Int)) (by have e : p = q0 := (by omega); subst e; rw [show endO n p a p = a from if_neg (by omega), hka]) ?_
      refine r_istore (pc := 45) (i := 5) (lv' := [_, _, _, _, _, _, _, _]) dX5_shortestOdd_45 (by decide) rfl ?_
      refine r_iconst (pc := 47) dX5_shortestOdd_47 (in32_of rfl) ?_
      refine r_istore (pc := 48) (i := 6) (lv' := [_, _, _, _, _, _, _, _]) dX5_shortestOdd_48 (by decide) rfl ?_
      refine loop1 (fun (j : Nat) => j ≤ nbk (endO n q0 a p) (B * 2 ^ p)) (fun (j : Nat) => nbk (endO n q0 a p) (B * 2 ^ p) - j) (fun (j : Nat) => [some (aR m), some (aI ((n : Nat) : Int)), some (aI (ecF B (fdR M B n p (fdP M B n q0 a p) j))), some (aI (((bst (fdR M B n p (fdP M B n q0 a p) j)) : Nat) : Int)), some (aI ((p : Nat) : Int)), some (aI (((nbk (endO n q0 a p) (B * 2 ^ p)) : Nat) : Int)), some (aI ((j : Nat) : Int)), none]) (fun _ => T) (fun (j : Nat) => I) ?_ 0 (Nat.zero_le _)
      intro j hP2 ih2
      have hP2 : j ≤ nbk (endO n q0 a p) (B * 2 ^ p) := hP2
      refine (?_ : Ev G mX5_shortestOdd d 50 [some (aR m), some (aI ((n : Nat) : Int)), some (aI (ecF B (fdR M B n p (fdP M B n q0 a p) j))), some (aI (((bst (fdR M B n p (fdP M B n q0 a p) j)) : Nat) : Int)), some (aI ((p : Nat) : Int)), some (aI (((nbk (endO n q0 a p) (B * 2 ^ p)) : Nat) : Int)), some (aI ((j : Nat) : Int)), none] [] T I Q)
      refine r_iload (pc := 50) (i := 6) dX5_shortestOdd_50 rfl ?_
      refine r_iload (pc := 52) (i := 5) dX5_shortestOdd_52 rfl ?_
      refine r_icmp_ge (pc := 54) (tgt := 114) dX5_shortestOdd_54 rfl (fun c54 => ?_) (fun c54 => ?_)
      · refine r_iincN (pc := 114) (i := 4) (c := ((p + 1 : Nat) : Int)) (lv' := [_, _, _, _, _, _, _, _]) dX5_shortestOdd_114 rfl (by decide) (by unfold w32; omega) rfl ?_
        refine r_goto (pc := 117) (tgt := 9) dX5_shortestOdd_117 rfl ?_
        refine Ev.weak (lv2 := [some (aR m), some (aI ((n : Nat) : Int)), some (aI (ecF B (fdR M B n p (fdP M B n q0 a p) j))), some (aI (((bst (fdR M B n p (fdP M B n q0 a p) j)) : Nat) : Int)), some (aI ((p + 1 : Nat) : Int)), none, none, none]) ⟨Or.inr rfl, Or.inr rfl, Or.inr rfl, Or.inr rfl, Or.inr rfl, Or.inl rfl, Or.inl rfl, Or.inl rfl, trivial⟩ ?_
        exact Ev.re (by rw [fdP_succ, show j = nbk (endO n q0 a p) (B * 2 ^ p) by omega]) rfl (ih (p + 1) (by omega) (by omega))
      · have hjn := (nbk_lt hz0).mp (show j < nbk n (B * 2 ^ p) by omega)
        have hj128 : j < 128 := by have h2 : 2 * 1 ≤ B * 2 ^ p := Nat.mul_le_mul hB1 (Nat.two_pow_pos p); have := Nat.mul_le_mul (Nat.le_refl j) h2; omega
        have hll : lnB n (B * 2 ^ p) (j * (B * 2 ^ p)) ≤ 256 := by unfold lnB; omega
        refine r_iload_n (pc := 57) (i := 1) dX5_shortestOdd_57 rfl rfl ?_
        refine r_aload_n (pc := 58) (i := 0) dX5_shortestOdd_58 rfl rfl ?_
        refine r_getfi (pc := 59) cks dX5_shortestOdd_59 fl_X5_22 rfl (kD0 hD) (ltD0 hD) ?_
        refine r_top (b := (B : Int)) (hmB) ?_
        refine r_iload (pc := 62) (i := 4) dX5_shortestOdd_62 rfl ?_
        refine r_ishl (pc := 64) dX5_shortestOdd_64 ?_
        refine r_top (b := (((B * 2 ^ p) : Nat) : Int)) (by rw [isl_n (by omega) (by omega) (by omega)]; simp) ?_
        refine r_iload (pc := 65) (i := 6) dX5_shortestOdd_65 rfl ?_
        refine r_callS1 (pc := 67) (d - 1) [aI ((n : Nat) : Int), aI (((B * 2 ^ p) : Nat) : Int), aI ((j : Nat) : Int)] dX5_shortestOdd_67 (CS.mk2 mk_X11_lengthOf lk_X5_61) rfl rfl (by omega) (Nat.le_of_ble_eq_true rfl) (Nat.le_of_ble_eq_true rfl) (k_lengthOf (n := n) (z := B * 2 ^ p) (k := j) (by omega) hn2 (by omega) (by omega) ?_)
        refine ⟨_, rfl, fun _ => ?_⟩
        refine r_istore (pc := 70) (i := 7) (lv' := [_, _, _, _, _, _, _, _]) dX5_shortestOdd_70 (by decide) rfl ?_
        refine r_aload_n (pc := 72) (i := 0) dX5_shortestOdd_72 rfl rfl ?_
        refine r_getfr (pc := 73) (b := m + 2) cks dX5_shortestOdd_73 fl_X5_15 rfl (kD0 hD) (ltD0 hD) (rD0_1 hD) ?_
        refine r_iload (pc := 76) (i := 4) dX5_shortestOdd_76 rfl ?_
        refine r_sipush (pc := 78) dX5_shortestOdd_78 rfl (in32_of rfl) ?_
        refine r_imulN (pc := 81) (c := ((128 * p : Nat) : Int)) dX5_shortestOdd_81 (by unfold w32; omega) ?_
        refine r_iload (pc := 82) (i := 6) dX5_shortestOdd_82 rfl ?_
        refine r_iaddN (pc := 84) (c := ((128 * p + j : Nat) : Int)) dX5_shortestOdd_84 (by unfold w32; omega) ?_
        refine r_ild (pc := 85) (128 * p + j) dX5_shortestOdd_85 (kD2 hD) (ltD (k := 2) hD (by omega)) rfl (by rw [lD2 hD]; omega) ?_
        refine r_top (b := ukO M p (j * (B * 2 ^ p)) (lnB n (B * 2 ^ p) (j * (B * 2 ^ p)))) (hOd p (by omega) j (by omega)) ?_
        refine r_if_eq (pc := 86) (tgt := 108) dX5_shortestOdd_86 rfl (fun c86 => ?_) (fun c86 => ?_)
        · refine r_iincN (pc := 108) (i := 6) (c := ((j + 1 : Nat) : Int)) (lv' := [_, _, _, _, _, _, _, _]) dX5_shortestOdd_108 rfl (by decide) (by unfold w32; omega) rfl ?_
          refine r_goto (pc := 111) (tgt := 50) dX5_shortestOdd_111 rfl ?_
          refine Ev.weak (lv2 := [some (aR m), some (aI ((n : Nat) : Int)), some (aI (ecF B (fdR M B n p (fdP M B n q0 a p) j))), some (aI (((bst (fdR M B n p (fdP M B n q0 a p) j)) : Nat) : Int)), some (aI ((p : Nat) : Int)), some (aI (((nbk (endO n q0 a p) (B * 2 ^ p)) : Nat) : Int)), some (aI ((j + 1 : Nat) : Int)), none]) ⟨Or.inr rfl, Or.inr rfl, Or.inr rfl, Or.inr rfl, Or.inr rfl, Or.inr rfl, Or.inr rfl, Or.inl rfl, trivial⟩ ?_
          have hu := ukO_01 M p (j * (B * 2 ^ p)) (lnB n (B * 2 ^ p) (j * (B * 2 ^ p)))
          have hT : fdR M B n p (fdP M B n q0 a p) (j + 1) = fdR M B n p (fdP M B n q0 a p) j := by rw [fdR_succ, fdT_eq]; split; rfl; rw [if_neg (by omega)]
          exact Ev.re (by rw [hT]) rfl (ih2 (j + 1) (by omega) (by omega))
        · refine r_iload (pc := 89) (i := 7) dX5_shortestOdd_89 rfl ?_
          refine r_iload_n (pc := 91) (i := 3) dX5_shortestOdd_91 rfl rfl ?_
          refine r_icmp_ge (pc := 92) (tgt := 108) dX5_shortestOdd_92 rfl (fun c92 => ?_) (fun c92 => ?_)
          · refine r_iincN (pc := 108) (i := 6) (c := ((j + 1 : Nat) : Int)) (lv' := [_, _, _, _, _, _, _, _]) dX5_shortestOdd_108 rfl (by decide) (by unfold w32; omega) rfl ?_
            refine r_goto (pc := 111) (tgt := 50) dX5_shortestOdd_111 rfl ?_
            refine Ev.weak (lv2 := [some (aR m), some (aI ((n : Nat) : Int)), some (aI (ecF B (fdR M B n p (fdP M B n q0 a p) j))), some (aI (((bst (fdR M B n p (fdP M B n q0 a p) j)) : Nat) : Int)), some (aI ((p : Nat) : Int)), some (aI (((nbk (endO n q0 a p) (B * 2 ^ p)) : Nat) : Int)), some (aI ((j + 1 : Nat) : Int)), none]) ⟨Or.inr rfl, Or.inr rfl, Or.inr rfl, Or.inr rfl, Or.inr rfl, Or.inr rfl, Or.inr rfl, Or.inl rfl, trivial⟩ ?_
            have hu := ukO_01 M p (j * (B * 2 ^ p)) (lnB n (B * 2 ^ p) (j * (B * 2 ^ p)))
            have hT : fdR M B n p (fdP M B n q0 a p) (j + 1) = fdR M B n p (fdP M B n q0 a p) j := by rw [fdR_succ, fdT_eq, if_pos (by omega)]
            exact Ev.re (by rw [hT]) rfl (ih2 (j + 1) (by omega) (by omega))
          · refine r_iload (pc := 95) (i := 4) dX5_shortestOdd_95 rfl ?_
            refine r_sipush (pc := 97) dX5_shortestOdd_97 rfl (in32_of rfl) ?_
            refine r_imulN (pc := 100) (c := ((128 * p : Nat) : Int)) dX5_shortestOdd_100 (by unfold w32; omega) ?_
            refine r_iload (pc := 101) (i := 6) dX5_shortestOdd_101 rfl ?_
            refine r_iaddN (pc := 103) (c := ((128 * p + j : Nat) : Int)) dX5_shortestOdd_103 (by unfold w32; omega) ?_
            refine r_istore_n (pc := 104) (i := 2) (lv' := [_, _, _, _, _, _, _, _]) dX5_shortestOdd_104 rfl (by decide) rfl ?_
            refine r_iload (pc := 105) (i := 7) dX5_shortestOdd_105 rfl ?_
            refine r_istore_n (pc := 107) (i := 3) (lv' := [_, _, _, _, _, _, _, _]) dX5_shortestOdd_107 rfl (by decide) rfl ?_
            refine r_iincN (pc := 108) (i := 6) (c := ((j + 1 : Nat) : Int)) (lv' := [_, _, _, _, _, _, _, _]) dX5_shortestOdd_108 rfl (by decide) (by unfold w32; omega) rfl ?_
            refine r_goto (pc := 111) (tgt := 50) dX5_shortestOdd_111 rfl ?_
            refine Ev.weak (lv2 := [some (aR m), some (aI ((n : Nat) : Int)), some (aI ((128 * p + j : Nat) : Int)), some (aI (((lnB n (B * 2 ^ p) (j * (B * 2 ^ p))) : Nat) : Int)), some (aI ((p : Nat) : Int)), some (aI (((nbk (endO n q0 a p) (B * 2 ^ p)) : Nat) : Int)), some (aI ((j + 1 : Nat) : Int)), none]) ⟨Or.inr rfl, Or.inr rfl, Or.inr rfl, Or.inr rfl, Or.inr rfl, Or.inr rfl, Or.inr rfl, Or.inl rfl, trivial⟩ ?_
            have hu := ukO_01 M p (j * (B * 2 ^ p)) (lnB n (B * 2 ^ p) (j * (B * 2 ^ p)))
            have hT : fdR M B n p (fdP M B n q0 a p) (j + 1) = some (lnB n (B * 2 ^ p) (j * (B * 2 ^ p)), p, j * (B * 2 ^ p)) := by rw [fdR_succ, fdT_eq, if_neg (by omega), if_pos (by omega)]
            exact Ev.re (by rw [hT, show ecF B (some (lnB n (B * 2 ^ p) (j * (B * 2 ^ p)), p, j * (B * 2 ^ p))) = ((128 * p + j : Nat) : Int) from by show ((128 * p + j * (B * 2 ^ p) / (B * 2 ^ p) : Nat) : Int) = _; rw [Nat.mul_div_cancel _ hz0], show bst (some (lnB n (B * 2 ^ p) (j * (B * 2 ^ p)), p, j * (B * 2 ^ p))) = lnB n (B * 2 ^ p) (j * (B * 2 ^ p)) from rfl]) rfl (ih2 (j + 1) (by omega) (by omega))
    · refine r_iload_n (pc := 27) (i := 1) dX5_shortestOdd_27 rfl rfl ?_
      refine r_aload_n (pc := 28) (i := 0) dX5_shortestOdd_28 rfl rfl ?_
      refine r_getfi (pc := 29) cks dX5_shortestOdd_29 fl_X5_22 rfl (kD0 hD) (ltD0 hD) ?_
      refine r_top (b := (B : Int)) (hmB) ?_
      refine r_iload (pc := 32) (i := 4) dX5_shortestOdd_32 rfl ?_
      refine r_ishl (pc := 34) dX5_shortestOdd_34 ?_
      refine r_top (b := (((B * 2 ^ p) : Nat) : Int)) (by rw [isl_n (by omega) (by omega) (by omega)]; simp) ?_
      refine r_callS1 (pc := 35) (d - 1) [aI ((n : Nat) : Int), aI (((B * 2 ^ p) : Nat) : Int)] dX5_shortestOdd_35 (CS.mk2 mk_X11_blocksOf lk_X5_57) rfl rfl (by omega) (Nat.le_of_ble_eq_true rfl) (Nat.le_of_ble_eq_true rfl) (k_blocksOf (n := n) (z := B * 2 ^ p) (by omega) (by omega) (by omega) ?_)
      refine ⟨_, rfl, fun _ => ?_⟩
      refine r_goto (pc := 38) (tgt := 45) dX5_shortestOdd_38 rfl ?_
      refine r_top (b := ((nbk (endO n q0 a p) (B * 2 ^ p) : Nat) : Int)) (by rw [show endO n q0 a p = n from if_pos (by omega)]) ?_
      refine r_istore (pc := 45) (i := 5) (lv' := [_, _, _, _, _, _, _, _]) dX5_shortestOdd_45 (by decide) rfl ?_
      refine r_iconst (pc := 47) dX5_shortestOdd_47 (in32_of rfl) ?_
      refine r_istore (pc := 48) (i := 6) (lv' := [_, _, _, _, _, _, _, _]) dX5_shortestOdd_48 (by decide) rfl ?_
      refine loop1 (fun (j : Nat) => j ≤ nbk (endO n q0 a p) (B * 2 ^ p)) (fun (j : Nat) => nbk (endO n q0 a p) (B * 2 ^ p) - j) (fun (j : Nat) => [some (aR m), some (aI ((n : Nat) : Int)), some (aI (ecF B (fdR M B n p (fdP M B n q0 a p) j))), some (aI (((bst (fdR M B n p (fdP M B n q0 a p) j)) : Nat) : Int)), some (aI ((p : Nat) : Int)), some (aI (((nbk (endO n q0 a p) (B * 2 ^ p)) : Nat) : Int)), some (aI ((j : Nat) : Int)), none]) (fun _ => T) (fun (j : Nat) => I) ?_ 0 (Nat.zero_le _)
      intro j hP2 ih2
      have hP2 : j ≤ nbk (endO n q0 a p) (B * 2 ^ p) := hP2
      refine (?_ : Ev G mX5_shortestOdd d 50 [some (aR m), some (aI ((n : Nat) : Int)), some (aI (ecF B (fdR M B n p (fdP M B n q0 a p) j))), some (aI (((bst (fdR M B n p (fdP M B n q0 a p) j)) : Nat) : Int)), some (aI ((p : Nat) : Int)), some (aI (((nbk (endO n q0 a p) (B * 2 ^ p)) : Nat) : Int)), some (aI ((j : Nat) : Int)), none] [] T I Q)
      refine r_iload (pc := 50) (i := 6) dX5_shortestOdd_50 rfl ?_
      refine r_iload (pc := 52) (i := 5) dX5_shortestOdd_52 rfl ?_
      refine r_icmp_ge (pc := 54) (tgt := 114) dX5_shortestOdd_54 rfl (fun c54 => ?_) (fun c54 => ?_)
      · refine r_iincN (pc := 114) (i := 4) (c := ((p + 1 : Nat) : Int)) (lv' := [_, _, _, _, _, _, _, _]) dX5_shortestOdd_114 rfl (by decide) (by unfold w32; omega) rfl ?_
        refine r_goto (pc := 117) (tgt := 9) dX5_shortestOdd_117 rfl ?_
        refine Ev.weak (lv2 := [some (aR m), some (aI ((n : Nat) : Int)), some (aI (ecF B (fdR M B n p (fdP M B n q0 a p) j))), some (aI (((bst (fdR M B n p (fdP M B n q0 a p) j)) : Nat) : Int)), some (aI ((p + 1 : Nat) : Int)), none, none, none]) ⟨Or.inr rfl, Or.inr rfl, Or.inr rfl, Or.inr rfl, Or.inr rfl, Or.inl rfl, Or.inl rfl, Or.inl rfl, trivial⟩ ?_
        exact Ev.re (by rw [fdP_succ, show j = nbk (endO n q0 a p) (B * 2 ^ p) by omega]) rfl (ih (p + 1) (by omega) (by omega))
      · have hjn := (nbk_lt hz0).mp (show j < nbk n (B * 2 ^ p) by omega)
        have hj128 : j < 128 := by have h2 : 2 * 1 ≤ B * 2 ^ p := Nat.mul_le_mul hB1 (Nat.two_pow_pos p); have := Nat.mul_le_mul (Nat.le_refl j) h2; omega
        have hll : lnB n (B * 2 ^ p) (j * (B * 2 ^ p)) ≤ 256 := by unfold lnB; omega
        refine r_iload_n (pc := 57) (i := 1) dX5_shortestOdd_57 rfl rfl ?_
        refine r_aload_n (pc := 58) (i := 0) dX5_shortestOdd_58 rfl rfl ?_
        refine r_getfi (pc := 59) cks dX5_shortestOdd_59 fl_X5_22 rfl (kD0 hD) (ltD0 hD) ?_
        refine r_top (b := (B : Int)) (hmB) ?_
        refine r_iload (pc := 62) (i := 4) dX5_shortestOdd_62 rfl ?_
        refine r_ishl (pc := 64) dX5_shortestOdd_64 ?_
        refine r_top (b := (((B * 2 ^ p) : Nat) : Int)) (by rw [isl_n (by omega) (by omega) (by omega)]; simp) ?_
        refine r_iload (pc := 65) (i := 6) dX5_shortestOdd_65 rfl ?_
        refine r_callS1 (pc := 67) (d - 1) [aI ((n : Nat) : Int), aI (((B * 2 ^ p) : Nat) : Int), aI ((j : Nat) : Int)] dX5_shortestOdd_67 (CS.mk2 mk_X11_lengthOf lk_X5_61) rfl rfl (by omega) (Nat.le_of_ble_eq_true rfl) (Nat.le_of_ble_eq_true rfl) (k_lengthOf (n := n) (z := B * 2 ^ p) (k := j) (by omega) hn2 (by omega) (by omega) ?_)
        refine ⟨_, rfl, fun _ => ?_⟩
        refine r_istore (pc := 70) (i := 7) (lv' := [_, _, _, _, _, _, _, _]) dX5_shortestOdd_70 (by decide) rfl ?_
        refine r_aload_n (pc := 72) (i := 0) dX5_shortestOdd_72 rfl rfl ?_
        refine r_getfr (pc := 73) (b := m + 2) cks dX5_shortestOdd_73 fl_X5_15 rfl (kD0 hD) (ltD0 hD) (rD0_1 hD) ?_
        refine r_iload (pc := 76) (i := 4) dX5_shortestOdd_76 rfl ?_
        refine r_sipush (pc := 78) dX5_shortestOdd_78 rfl (in32_of rfl) ?_
        refine r_imulN (pc := 81) (c := ((128 * p : Nat) : Int)) dX5_shortestOdd_81 (by unfold w32; omega) ?_
        refine r_iload (pc := 82) (i := 6) dX5_shortestOdd_82 rfl ?_
        refine r_iaddN (pc := 84) (c := ((128 * p + j : Nat) : Int)) dX5_shortestOdd_84 (by unfold w32; omega) ?_
        refine r_ild (pc := 85) (128 * p + j) dX5_shortestOdd_85 (kD2 hD) (ltD (k := 2) hD (by omega)) rfl (by rw [lD2 hD]; omega) ?_
        refine r_top (b := ukO M p (j * (B * 2 ^ p)) (lnB n (B * 2 ^ p) (j * (B * 2 ^ p)))) (hOd p (by omega) j (by omega)) ?_
        refine r_if_eq (pc := 86) (tgt := 108) dX5_shortestOdd_86 rfl (fun c86 => ?_) (fun c86 => ?_)
        · refine r_iincN (pc := 108) (i := 6) (c := ((j + 1 : Nat) : Int)) (lv' := [_, _, _, _, _, _, _, _]) dX5_shortestOdd_108 rfl (by decide) (by unfold w32; omega) rfl ?_
          refine r_goto (pc := 111) (tgt := 50) dX5_shortestOdd_111 rfl ?_
          refine Ev.weak (lv2 := [some (aR m), some (aI ((n : Nat) : Int)), some (aI (ecF B (fdR M B n p (fdP M B n q0 a p) j))), some (aI (((bst (fdR M B n p (fdP M B n q0 a p) j)) : Nat) : Int)), some (aI ((p : Nat) : Int)), some (aI (((nbk (endO n q0 a p) (B * 2 ^ p)) : Nat) : Int)), some (aI ((j + 1 : Nat) : Int)), none]) ⟨Or.inr rfl, Or.inr rfl, Or.inr rfl, Or.inr rfl, Or.inr rfl, Or.inr rfl, Or.inr rfl, Or.inl rfl, trivial⟩ ?_
          have hu := ukO_01 M p (j * (B * 2 ^ p)) (lnB n (B * 2 ^ p) (j * (B * 2 ^ p)))
          have hT : fdR M B n p (fdP M B n q0 a p) (j + 1) = fdR M B n p (fdP M B n q0 a p) j := by rw [fdR_succ, fdT_eq]; split; rfl; rw [if_neg (by omega)]
          exact Ev.re (by rw [hT]) rfl (ih2 (j + 1) (by omega) (by omega))
        · refine r_iload (pc := 89) (i := 7) dX5_shortestOdd_89 rfl ?_
          refine r_iload_n (pc := 91) (i := 3) dX5_shortestOdd_91 rfl rfl ?_
          refine r_icmp_ge (pc := 92) (tgt := 108) dX5_shortestOdd_92 rfl (fun c92 => ?_) (fun c92 => ?_)
          · refine r_iincN (pc := 108) (i := 6) (c := ((j + 1 : Nat) : Int)) (lv' := [_, _, _, _, _, _, _, _]) dX5_shortestOdd_108 rfl (by decide) (by unfold w32; omega) rfl ?_
            refine r_goto (pc := 111) (tgt := 50) dX5_shortestOdd_111 rfl ?_
            refine Ev.weak (lv2 := [some (aR m), some (aI ((n : Nat) : Int)), some (aI (ecF B (fdR M B n p (fdP M B n q0 a p) j))), some (aI (((bst (fdR M B n p (fdP M B n q0 a p) j)) : Nat) : Int)), some (aI ((p : Nat) : Int)), some (aI (((nbk (endO n q0 a p) (B * 2 ^ p)) : Nat) : Int)), some (aI ((j + 1 : Nat) : Int)), none]) ⟨Or.inr rfl, Or.inr rfl, Or.inr rfl, Or.inr rfl, Or.inr rfl, Or.inr rfl, Or.inr rfl, Or.inl rfl, trivial⟩ ?_
            have hu := ukO_01 M p (j * (B * 2 ^ p)) (lnB n (B * 2 ^ p) (j * (B * 2 ^ p)))
            have hT : fdR M B n p (fdP M B n q0 a p) (j + 1) = fdR M B n p (fdP M B n q0 a p) j := by rw [fdR_succ, fdT_eq, if_pos (by omega)]
            exact Ev.re (by rw [hT]) rfl (ih2 (j + 1) (by omega) (by omega))
          · refine r_iload (pc := 95) (i := 4) dX5_shortestOdd_95 rfl ?_
            refine r_sipush (pc := 97) dX5_shortestOdd_97 rfl (in32_of rfl) ?_
            refine r_imulN (pc := 100) (c := ((128 * p : Nat) : Int)) dX5_shortestOdd_100 (by unfold w32; omega) ?_
            refine r_iload (pc := 101) (i := 6) dX5_shortestOdd_101 rfl ?_
            refine r_iaddN (pc := 103) (c := ((128 * p + j : Nat) : Int)) dX5_shortestOdd_103 (by unfold w32; omega) ?_
            refine r_istore_n (pc := 104) (i := 2) (lv' := [_, _, _, _, _, _, _, _]) dX5_shortestOdd_104 rfl (by decide) rfl ?_
            refine r_iload (pc := 105) (i := 7) dX5_shortestOdd_105 rfl ?_
            refine r_istore_n (pc := 107) (i := 3) (lv' := [_, _, _, _, _, _, _, _]) dX5_shortestOdd_107 rfl (by decide) rfl ?_
            refine r_iincN (pc := 108) (i := 6) (c := ((j + 1 : Nat) : Int)) (lv' := [_, _, _, _, _, _, _, _]) dX5_shortestOdd_108 rfl (by decide) (by unfold w32; omega) rfl ?_
            refine r_goto (pc := 111) (tgt := 50) dX5_shortestOdd_111 rfl ?_
            refine Ev.weak (lv2 := [some (aR m), some (aI ((n : Nat) : Int)), some (aI ((128 * p + j : Nat) : Int)), some (aI (((lnB n (B * 2 ^ p) (j * (B * 2 ^ p))) : Nat) : Int)), some (aI ((p : Nat) : Int)), some (aI (((nbk (endO n q0 a p) (B * 2 ^ p)) : Nat) : Int)), some (aI ((j + 1 : Nat) : Int)), none]) ⟨Or.inr rfl, Or.inr rfl, Or.inr rfl, Or.inr rfl, Or.inr rfl, Or.inr rfl, Or.inr rfl, Or.inl rfl, trivial⟩ ?_
            have hu := ukO_01 M p (j * (B * 2 ^ p)) (lnB n (B * 2 ^ p) (j * (B * 2 ^ p)))
            have hT : fdR M B n p (fdP M B n q0 a p) (j + 1) = some (lnB n (B * 2 ^ p) (j * (B * 2 ^ p)), p, j * (B * 2 ^ p)) := by rw [fdR_succ, fdT_eq, if_neg (by omega), if_pos (by omega)]
            exact Ev.re (by rw [hT, show ecF B (some (lnB n (B * 2 ^ p) (j * (B * 2 ^ p)), p, j * (B * 2 ^ p))) = ((128 * p + j : Nat) : Int) from by show ((128 * p + j * (B * 2 ^ p) / (B * 2 ^ p) : Nat) : Int) = _; rw [Nat.mul_div_cancel _ hz0], show bst (some (lnB n (B * 2 ^ p) (j * (B * 2 ^ p)), p, j * (B * 2 ^ p))) = lnB n (B * 2 ^ p) (j * (B * 2 ^ p)) from rfl]) rfl (ih2 (j + 1) (by omega) (by omega))
end C18
