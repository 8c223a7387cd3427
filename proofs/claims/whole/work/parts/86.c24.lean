section C24
variable {G : Gl} {d : Nat} {T : Sh} {I : Mi} {N : Nat → Int} {Q : Option AV → Sh → Mi → Prop}
theorem mb_F {D F M : Nat → Int} {n y v i z zY : Nat} (h : v < y → ∀ i, i < n → D (256 * v + oP M v i) = ((i / z : Nat) : Int)) (hF1 : ∀ i, i < n → F (256 * y + oP M y i) = ((i / zY : Nat) : Int)) (hF2 : ∀ j, ¬ (256 * y ≤ j ∧ j < 256 * y + 256) → F j = D j) (hv : v < y + 1) (ho : oP M v i < n) (hn : n ≤ 256) (hi : i < n) (hz : v = y → z = zY) : F (256 * v + oP M v i) = ((i / z : Nat) : Int) := by
  by_cases g : v = y
  · rw [hz g]; subst g; exact hF1 i hi
  · rw [hF2 _ (by omega)]; exact h (by omega) i hi
theorem mb_O {D O M : Nat → Int} {n y v w B : Nat} (h : v < y → ∀ w, w < nbk n (B * 2 ^ v) → D (128 * v + w) = ukO M v (w * (B * 2 ^ v)) (lnB n (B * 2 ^ v) (w * (B * 2 ^ v)))) (hO1 : ∀ w, w < nbk n (B * 2 ^ y) → O (128 * y + w) = ukO M y (w * (B * 2 ^ y)) (lnB n (B * 2 ^ y) (w * (B * 2 ^ y)))) (hO2 : ∀ j, ¬ (128 * y ≤ j ∧ j < 128 * y + 128) → O j = D j) (hv : v < y + 1) (hB : 2 ≤ B) (hn : n ≤ 256) (hw : w < nbk n (B * 2 ^ v)) : O (128 * v + w) = ukO M v (w * (B * 2 ^ v)) (lnB n (B * 2 ^ v) (w * (B * 2 ^ v))) := by
  by_cases g : v = y
  · subst g; exact hO1 w hw
  · have hbs : 0 < B * 2 ^ v := Nat.mul_pos (by omega) (Nat.two_pow_pos v)
    have h128 := blk128 hn hB ((nbk_lt hbs).mp hw)
    rw [hO2 _ (by omega)]
    exact h (by omega) w hw
theorem nbk_a {n z k : Nat} (hz : 0 < z) (hk : k * z < n) : nbk (k * z + lnB n z (k * z)) z = k + 1 := by
  have h1 : k < nbk (k * z + lnB n z (k * z)) z := (nbk_lt hz).mpr (by unfold lnB; omega)
  have h2 : ¬ (k + 1 < nbk (k * z + lnB n z (k * z)) z) := fun h => by
    have := (nbk_lt hz).mp h
    rw [Nat.add_mul] at this
    unfold lnB at this
    omega
  omega
theorem InI_256 {B n q a : Nat} {G1 M1 M : Nat → Int} {cnt j : Nat} {t : Nat × Nat × Nat} (hj : 256 ≤ j) : ¬ InI B n q a G1 M1 M cnt (some t) j := by
  rintro ⟨h1, h2, h3, h4, h5⟩
  obtain ⟨y, i, e, hi⟩ := h4 (fun h => nomatch h)
  have := (h3 y i e hi).2.2.2.2
  omega
theorem mj_W {T : Sh} {J : Mi} {s m p o t c e n : Nat} {M : Nat → Int} (hS : ShS T s p o t c) (hm : m + 4 ≤ 291) (hdm : m + 4 ≤ s ∨ s + 15 ≤ m) (h : MwR T J s p o t c M e n) (D : (Nat → Int) × (Nat → Int)) : MwR T (sr (sr J (m + 1) D.1) (m + 2) D.2) s p o t c M e n := by
  have f0 : ∀ b, b ≠ m + 1 → b ≠ m + 2 → (sr (sr J (m + 1) D.1) (m + 2) D.2) b = J b := fun b h1 h2 => by rw [sr_ne h2, sr_ne h1]
  have fk : ∀ k, k < 15 → (sr (sr J (m + 1) D.1) (m + 2) D.2) (s + k) = J (s + k) := fun k hk => f0 _ (ne_ms hdm hk (by decide)) (ne_ms hdm hk (by decide))
  have q1 := ne_mk hS hm hdm (k := 1) (by decide)
  have q2 := ne_mk hS hm hdm (k := 2) (by decide)
  exact MwR_rows h (congrFun (fk 0 (by decide)) 8) (fk 2 (by decide)) (fk 3 (by decide)) (fk 4 (by decide)) (fk 5 (by decide)) (fk 7 (by decide)) (f0 _ q1.1 q2.1) (f0 _ q1.2.1 q2.2.1) (f0 _ q1.2.2 q2.2.2)
theorem k_runPass {m n B q : Nat} {L : Nat → Int} {s p o t c : Nat} (hS : ShS T s p o t c) (hd : 5 ≤ d) (hD : ShD T m) (hdm : m + 4 ≤ s ∨ s + 15 ≤ m) (hst : StR L I s p o t N) (htc : tN N ≤ c) (hP0 : PmO N q n) (hLd : LdOk N q n) (hN2 : N 2 = (q : Int)) (hq6 : q < 6) (hN0 : ¬ N 0 = 0) (hN6 : N 6 = 0) (hLs : (sgV L N).toNat ≤ 256) (hB1 : 2 ≤ B) (hB2 : B ≤ 64) (hb : tN N + nbk n (B * 2 ^ q) + 8 * 256 + 8 ≤ 13608) (hq : ∀ (U : Sh) (K : Mi) (p2 o2 t2 c2 : Nat), RpP T U I K s m p o t c p2 o2 t2 c2 L (psF B N) (q + 1) n → Q (some (aI (w32 (psF B N 7 - N 7)))) U K) : EvE G mX5_runPass d [aR m, aR s, aI ((B : Nat) : Int)] T I Q := by
  have hne := neS hS
  have hm0 := hD.1
  have hn2 := hP0.2.2.1
  have hnx := hS.1.2.1
  obtain ⟨z, hz⟩ : ∃ z, z = B * 2 ^ q := ⟨_, rfl⟩
  have hz2 : z ≤ 2048 := hz ▸ pw_le hB2 hq6
  have hz0 : 0 < z := hz ▸ Nat.mul_pos (by omega) (Nat.two_pow_pos q)
  have hoN : ordN (shF N q n) q n := ordN_sh hq6 hn2 hP0.1 (fun p hp k hk => hP0.2.2.2.2.1 p hp k hk)
  have htS := sh_t (N := N) (q := q) (n := n) hP0.1 hq6 hn2
  have hul := unl_le (shF N q n) n
  have hbd : tN (shF N q n) + nbk n (B * 2 ^ q) + 8 * unl (shF N q n) n + 8 ≤ 13608 := by omega
  have hbd2 : tN (shF N q n) + nbk n z + 8 * unl (shF N q n) n + 8 ≤ 13608 := by rw [hz]; exact hbd
  rw [← hz] at hb
  clear hne
  refine EvE.mk (lv0 := [some (aR m), some (aR s), some (aI ((B : Nat) : Int)), none, none, none, none, none, none, none, none]) (Nat.le_of_ble_eq_true rfl) (by decide +kernel) rfl ?_
  refine r_aload_n (pc := 0) (i := 1) dX5_runPass_0 rfl rfl ?_
  refine r_getfi (pc := 1) cks dX5_runPass_1 fl_X5_32 rfl (kS0 hS) (ltS0 hS) ?_
  refine r_top (b := (q : Int)) (hst.1.2.2.2.2.2.2.1.trans hN2) ?_
  refine r_bipush (pc := 4) dX5_runPass_4 rfl (in32_of rfl) ?_
  refine r_icmp_lt (pc := 6) (tgt := 11) dX5_runPass_6 rfl (fun c6 => ?_) (fun c6 => absurd (by omega) c6)
  refine r_aload_n (pc := 11) (i := 1) dX5_runPass_11 rfl rfl ?_
  refine r_getfi (pc := 12) cks dX5_runPass_12 fl_X5_37 rfl (kS0 hS) (ltS0 hS) ?_
  refine r_top (b := N 7) (hst.1.2.2.2.2.2.2.2.2) ?_
  refine r_istore_n (pc := 15) (i := 3) (lv' := [_, _, _, _, _, _, _, _, _, _, _]) dX5_runPass_15 rfl (by decide) rfl ?_
  refine r_aload_n (pc := 16) (i := 0) dX5_runPass_16 rfl rfl ?_
  refine r_iload_n (pc := 17) (i := 2) dX5_runPass_17 rfl rfl ?_
  refine r_putfi (pc := 18) cks dX5_runPass_18 fl_X5_22 (pf_5_3 _ _) rfl (kD0 hD) (ltD0 hD) ?_
  refine r_mem (I2 := sr I m (un (I m) 3 ((B : Nat) : Int))) ((up2_row _ _ _ _).trans ((congrArg (fun fz_ => sr I m (un fz_ 3 ((B : Nat) : Int))) (show I m = I m from rfl)).trans (rfl))) ?_
  refine r_aload_n (pc := 21) (i := 0) dX5_runPass_21 rfl rfl ?_
  refine r_aload_n (pc := 22) (i := 1) dX5_runPass_22 rfl rfl ?_
  refine r_getfi (pc := 23) cks dX5_runPass_23 fl_X5_32 rfl (kS0 hS) (ltS0 hS) ?_
  refine r_top (b := I s 6) ((congrFun (sr_ne (by omega)) _).trans (rfl)) ?_
  refine r_top (b := (q : Int)) (hst.1.2.2.2.2.2.2.1.trans hN2) ?_
  refine r_putfi (pc := 26) cks dX5_runPass_26 fl_X5_26 (pf_5_4 _ _) rfl (kD0 hD) (ltD0 hD) ?_
  refine r_mem (I2 := sr I m (un (un (I m) 3 ((B : Nat) : Int)) 4 ((q : Nat) : Int))) ((up2_row _ _ _ _).trans ((congrArg (fun fz_ => sr (sr I m (un (I m) 3 ((B : Nat) : Int))) m (un fz_ 4 ((q : Nat) : Int))) (show (sr I m (un (I m) 3 ((B : Nat) : Int))) m = un (I m) 3 ((B : Nat) : Int) from sr_row _ _ _)).trans (sr_sr _ _ _ _))) ?_
  refine r_aload_n (pc := 29) (i := 1) dX5_runPass_29 rfl rfl ?_
  refine r_aload_n (pc := 30) (i := 0) dX5_runPass_30 rfl rfl ?_
  refine r_getfi (pc := 31) cks dX5_runPass_31 fl_X5_26 rfl (kD0 hD) (ltD0 hD) ?_
  refine r_top (b := (un (un (I m) 3 ((B : Nat) : Int)) 4 ((q : Nat) : Int)) 4) (sr_at _ _ _ _) ?_
  refine r_top (b := ((q : Nat) : Int)) (un_at) ?_
  refine r_callV0 (pc := 34) (d - 1) [aI ((q : Nat) : Int)] dX5_runPass_34 (CV.mk2 mk_X9_layOrder lk_X5_40) (RC.of (ltS0 hS) (kS0 hS) (by decide) rfl) rfl rfl (by omega) (Nat.le_of_ble_eq_true rfl) (Nat.le_of_ble_eq_true rfl) (k_layOrder (n := n) (q := q) (N := N) hS (by omega) ((congrFun (show (sr I m (un (un (I m) 3 ((B : Nat) : Int)) 4 ((q : Nat) : Int))) (s + 3) = I (s + 3) from (sr_ne (by omega)).trans (rfl)) 0).trans (hst.2.2.2.1.1.trans hP0.2.1)) hn2 hq6 ((congrFun (show (sr I m (un (un (I m) 3 ((B : Nat) : Int)) 4 ((q : Nat) : Int))) s = I s from (sr_ne (by omega)).trans (rfl)) 1).trans hst.1.2.1) hP0.1 ?_)
  refine ⟨rfl, fun _ => ?_⟩
  refine r_mem (I2 := sr (sr (sr I m (un (un (I m) 3 ((B : Nat) : Int)) 4 ((q : Nat) : Int))) (s + 2) (opR (I (s + 2)) (shF N q n) q n)) s (un (I s) 1 (shF N q n 8))) ((congr (congrArg (fun v0_ v1_ => (sr (sr (sr I m (un (un (I m) 3 ((B : Nat) : Int)) 4 ((q : Nat) : Int))) (s + 2) (opR v0_ (shF N q n) q n)) s (un v1_ 1 (shF N q n 8)))) (show (sr I m (un (un (I m) 3 ((B : Nat) : Int)) 4 ((q : Nat) : Int))) (s + 2) = I (s + 2) from (sr_ne (by omega)).trans (rfl))) (show (sr I m (un (un (I m) 3 ((B : Nat) : Int)) 4 ((q : Nat) : Int))) s = I s from (sr_ne (by omega)).trans (rfl))).trans ((congrArg (fun X => sr X s (un (I s) 1 (shF N q n 8))) (rfl)).trans (rfl))) ?_
  have h0 := rp_0 (B := B) (F := un (un (I m) 3 (B : Int)) 4 (q : Int)) hS hm0.1 hdm hst htc hP0 hLd hN2 hq6
  obtain ⟨J, hJ⟩ : ∃ J, J = sr (sr (sr I m (un (un (I m) 3 ((B : Nat) : Int)) 4 ((q : Nat) : Int))) (s + 2) (opR (I (s + 2)) (shF N q n) q n)) s (un (I s) 1 (shF N q n 8)) := ⟨_, rfl⟩
  rw [← hJ] at h0
  refine r_mem (I2 := J) hJ.symm ?_
  have hJm : J m = un (un (I m) 3 (B : Int)) 4 (q : Int) := by rw [hJ, sr_ne (show m ≠ s by omega), sr_ne (show m ≠ s + 2 by omega), sr_row]
  refine r_iconst (pc := 37) dX5_runPass_37 (in32_of rfl) ?_
  refine r_istore (pc := 38) (i := 4) (lv' := [_, _, _, _, _, _, _, _, _, _, _]) dX5_runPass_38 (by decide) rfl ?_
  refine r_mem (I2 := sr J (m + 1) (J (m + 1))) (((congrArg (fun f_ => sr J (m + 1) f_) (show J (m + 1) = J (m + 1) from rfl)).symm.trans (sr_id _ _)).symm) ?_
  refine r_mem (I2 := sr (sr J (m + 1) (J (m + 1))) (m + 2) (J (m + 2))) (((congrArg (fun f_ => sr (sr J (m + 1) (J (m + 1))) (m + 2) f_) (show (sr J (m + 1) (J (m + 1))) (m + 2) = J (m + 2) from (sr_ne (by omega)).trans (rfl))).symm.trans (sr_id _ _)).symm) ?_
  refine loop2 (fun (y : Nat) (D : (Nat → Int) × (Nat → Int)) => y ≤ q + 1 ∧ (∀ v, v < y → ∀ i, i < n → D.1 (256 * v + oP (shF N q n) v i) = ((i / (B * 2 ^ v) : Nat) : Int)) ∧ ∀ v, v < y → ∀ w, w < nbk n (B * 2 ^ v) → D.2 (128 * v + w) = ukO (shF N q n) v (w * (B * 2 ^ v)) (lnB n (B * 2 ^ v) (w * (B * 2 ^ v)))) (fun (y : Nat) (D : (Nat → Int) × (Nat → Int)) => q + 1 - y) (fun (y : Nat) (D : (Nat → Int) × (Nat → Int)) => [some (aR m), some (aR s), some (aI ((B : Nat) : Int)), some (aI (N 7)), some (aI ((y : Nat) : Int)), none, none, none, none, none, none]) (fun _ _ => T) (fun (y : Nat) (D : (Nat → Int) × (Nat → Int)) => sr (sr J (m + 1) D.1) (m + 2) D.2) ?_ 0 (J (m + 1), J (m + 2)) ⟨Nat.zero_le _, fun v hv => absurd hv (Nat.not_lt_zero v), fun v hv => absurd hv (Nat.not_lt_zero v)⟩
  intro y D hP ih
  have hP : y ≤ q + 1 ∧ (∀ v, v < y → ∀ i, i < n → D.1 (256 * v + oP (shF N q n) v i) = ((i / (B * 2 ^ v) : Nat) : Int)) ∧ ∀ v, v < y → ∀ w, w < nbk n (B * 2 ^ v) → D.2 (128 * v + w) = ukO (shF N q n) v (w * (B * 2 ^ v)) (lnB n (B * 2 ^ v) (w * (B * 2 ^ v))) := hP
  refine (?_ : Ev G mX5_runPass d 40 [some (aR m), some (aR s), some (aI ((B : Nat) : Int)), some (aI (N 7)), some (aI ((y : Nat) : Int)), none, none, none, none, none, none] [] T (sr (sr J (m + 1) D.1) (m + 2) D.2) Q)
  refine r_iload (pc := 40) (i := 4) dX5_runPass_40 rfl ?_
  refine r_aload_n (pc := 42) (i := 0) dX5_runPass_42 rfl rfl ?_
  refine r_getfi (pc := 43) cks dX5_runPass_43 fl_X5_26 rfl (kD0 hD) (ltD0 hD) ?_
  refine r_top (b := J m 4) ((congrFun (sr_ne (by omega)) _).trans ((congrFun (sr_ne (by omega)) _).trans (rfl))) ?_
  refine r_top (b := (q : Int)) ((congrFun hJm 4).trans un_at) ?_
  refine r_icmp_gt (pc := 46) (tgt := 62) dX5_runPass_46 rfl (fun c46 => ?_) (fun c46 => ?_)
  · have hy1 : y = q + 1 := by omega
    subst hy1
    have hR1 := rp_1 (N := N) hS hm0.1 hdm hJ h0.1 h0.2.1 h0.2.2 hP.2.1 hP.2.2
    refine r_aload_n (pc := 62) (i := 1) dX5_runPass_62 rfl rfl ?_
    refine r_getfr (pc := 63) (b := s + 3) cks dX5_runPass_63 fl_X5_48 rfl (kS0 hS) (ltS0 hS) (rS0_11 hS) ?_
    refine r_getfi (pc := 66) cks dX5_runPass_66 fl_X5_52 rfl (kS3 hS) (ltS (k := 3) hS (by omega)) ?_
    refine r_top (b := J (s + 3) 0) ((congrFun (sr_ne (by omega)) _).trans ((congrFun (sr_ne (by omega)) _).trans (rfl))) ?_
    refine r_top (b := (n : Int)) (h0.1.2.1.1) ?_
    refine r_istore (pc := 69) (i := 4) (lv' := [_, _, _, _, _, _, _, _, _, _, _]) dX5_runPass_69 (by decide) rfl ?_
    refine r_iload (pc := 71) (i := 4) dX5_runPass_71 rfl ?_
    refine r_aload_n (pc := 73) (i := 0) dX5_runPass_73 rfl rfl ?_
    refine r_getfi (pc := 74) cks dX5_runPass_74 fl_X5_22 rfl (kD0 hD) (ltD0 hD) ?_
    refine r_top (b := J m 3) ((congrFun (sr_ne (by omega)) _).trans ((congrFun (sr_ne (by omega)) _).trans (rfl))) ?_
    refine r_top (b := (B : Int)) ((congrFun hJm 3).trans ((un_ne (by decide)).trans un_at)) ?_
    refine r_aload_n (pc := 77) (i := 0) dX5_runPass_77 rfl rfl ?_
    refine r_getfi (pc := 78) cks dX5_runPass_78 fl_X5_26 rfl (kD0 hD) (ltD0 hD) ?_
    refine r_top (b := J m 4) ((congrFun (sr_ne (by omega)) _).trans ((congrFun (sr_ne (by omega)) _).trans (rfl))) ?_
    refine r_top (b := (q : Int)) ((congrFun hJm 4).trans un_at) ?_
    refine r_ishl (pc := 81) dX5_runPass_81 ?_
    refine r_top (b := ((z : Nat) : Int)) (by rw [isl_n (by omega) (by omega) (by omega), hz]; simp) ?_
    refine r_callS1 (pc := 82) (d - 1) [aI ((n : Nat) : Int), aI ((z : Nat) : Int)] dX5_runPass_82 (CS.mk2 mk_X11_blocksOf lk_X5_57) rfl rfl (by omega) (Nat.le_of_ble_eq_true rfl) (Nat.le_of_ble_eq_true rfl) (k_blocksOf (n := n) (z := z) (by omega) (by omega) (by omega) ?_)
    refine ⟨_, rfl, fun _ => ?_⟩
    refine r_istore (pc := 85) (i := 5) (lv' := [_, _, _, _, _, _, _, _, _, _, _]) dX5_runPass_85 (by decide) rfl ?_
    refine r_iconst (pc := 87) dX5_runPass_87 (in32_of rfl) ?_
    refine r_istore (pc := 88) (i := 6) (lv' := [_, _, _, _, _, _, _, _, _, _, _]) dX5_runPass_88 (by decide) rfl ?_
    refine loop2 (fun (k : Nat) (E : WE) => k ≤ nbk n z ∧ RpI T I s m p o t c E (psS B n q (shF N q n) k) (shF N q n) n B q) (fun (k : Nat) (E : WE) => nbk n z - k) (fun (k : Nat) (E : WE) => [some (aR m), some (aR s), some (aI ((B : Nat) : Int)), some (aI (N 7)), some (aI ((n : Nat) : Int)), some (aI (((nbk n z) : Nat) : Int)), some (aI ((k : Nat) : Int)), none, none, none, none]) (fun (k : Nat) (E : WE) => E.1) (fun (k : Nat) (E : WE) => E.2.1) ?_ 0 (T, sr (sr J (m + 1) D.1) (m + 2) D.2, p, o, t, c) ⟨Nat.zero_le _, hR1⟩
    intro k E hP3 ih3
    have hP3 : k ≤ nbk n z ∧ RpI T I s m p o t c E (psS B n q (shF N q n) k) (shF N q n) n B q := hP3
    have hDE := ShD_ext hD hP3.2.2.2.2.1.1 hdm
    have hSE := hP3.2.1.1
    refine (?_ : Ev G mX5_runPass d 90 [some (aR m), some (aR s), some (aI ((B : Nat) : Int)), some (aI (N 7)), some (aI ((n : Nat) : Int)), some (aI (((nbk n z) : Nat) : Int)), some (aI ((k : Nat) : Int)), none, none, none, none] [] E.1 E.2.1 Q)
    refine r_iload (pc := 90) (i := 6) dX5_runPass_90 rfl ?_
    refine r_iload (pc := 92) (i := 5) dX5_runPass_92 rfl ?_
    refine r_icmp_ge (pc := 94) (tgt := 224) dX5_runPass_94 rfl (fun c94 => ?_) (fun c94 => ?_)
    · have hkn : k = nbk n z := by omega
      subst hkn
      have hmi := psS_ok hq6 hn2 (by omega) hoN h0.2.1.1 hbd (nbk n (B * 2 ^ q)) (Nat.le_refl _)
      have hEnd := rp_end hS hm0.1 hdm hst hP0 hN2 hN0 hq6 hN6 hLs (by have h := hP3.2; rw [hz] at h; exact h) hmi
      refine r_aload_n (pc := 224) (i := 1) dX5_runPass_224 rfl rfl ?_
      refine r_dup (pc := 225) dX5_runPass_225 rfl ?_
      refine r_getfi (pc := 226) cks dX5_runPass_226 fl_X5_32 rfl (kS0 hSE) (ltS0 hSE) ?_
      refine r_top (b := (q : Int)) ((hP3.2.2.2.2.2.2.1 6 (by decide) (by decide)).trans (hst.1.2.2.2.2.2.2.1.trans hN2)) ?_
      refine r_iconst (pc := 229) dX5_runPass_229 (in32_of rfl) ?_
      refine r_iaddN (pc := 230) (c := ((q + 1 : Nat) : Int)) dX5_runPass_230 (by unfold w32; omega) ?_
      refine r_putfi (pc := 231) cks dX5_runPass_231 fl_X5_32 (pf_9_6 _ _) rfl (kS0 hSE) (ltS0 hSE) ?_
      refine r_mem (I2 := sr E.2.1 s (un (E.2.1 s) 6 ((q + 1 : Nat) : Int))) ((up2_row _ _ _ _).trans ((congrArg (fun fz_ => sr E.2.1 s (un fz_ 6 ((q + 1 : Nat) : Int))) (show E.2.1 s = E.2.1 s from rfl)).trans (rfl))) ?_
      refine r_aload_n (pc := 234) (i := 1) dX5_runPass_234 rfl rfl ?_
      refine r_iconst (pc := 235) dX5_runPass_235 (in32_of rfl) ?_
      refine r_putfi (pc := 236) cks dX5_runPass_236 fl_X5_77 (pf_9_0 _ _) rfl (kS0 hSE) (ltS0 hSE) ?_
      refine r_mem (I2 := sr E.2.1 s (un (un (E.2.1 s) 6 ((q + 1 : Nat) : Int)) 0 3)) ((up2_row _ _ _ _).trans ((congrArg (fun fz_ => sr (sr E.2.1 s (un (E.2.1 s) 6 ((q + 1 : Nat) : Int))) s (un fz_ 0 3)) (show (sr E.2.1 s (un (E.2.1 s) 6 ((q + 1 : Nat) : Int))) s = un (E.2.1 s) 6 ((q + 1 : Nat) : Int) from sr_row _ _ _)).trans (sr_sr _ _ _ _))) ?_
      refine r_aload_n (pc := 239) (i := 1) dX5_runPass_239 rfl rfl ?_
      refine r_getfi (pc := 240) cks dX5_runPass_240 fl_X5_37 rfl (kS0 hSE) (ltS0 hSE) ?_
      refine r_top (b := (un (un (E.2.1 s) 6 ((q + 1 : Nat) : Int)) 0 3) 8) (sr_at _ _ _ _) ?_
      refine r_top (b := E.2.1 s 8) ((un_ne (by decide)).trans (un_ne (by decide))) ?_
      refine r_top (b := psF B N 7) (hEnd.2) ?_
      refine r_iload_n (pc := 243) (i := 3) dX5_runPass_243 rfl rfl ?_
      refine r_isubN (pc := 244) (c := (w32 (psF B N 7 - N 7))) dX5_runPass_244 rfl ?_
      exact r_iret (pc := 245) dX5_runPass_245 trivial (hq _ _ _ _ _ _ hEnd.1)
    · have hkn : k * z < n := (nbk_lt (by omega)).mp (show k < nbk n z by omega)
      have hlk : 1 ≤ lnB n z (k * z) ∧ k * z + lnB n z (k * z) ≤ n ∧ lnB n z (k * z) ≤ 256 := by unfold lnB; omega
      refine r_aload_n (pc := 97) (i := 0) dX5_runPass_97 rfl rfl ?_
      refine r_iload (pc := 98) (i := 6) dX5_runPass_98 rfl ?_
      refine r_iconst (pc := 100) dX5_runPass_100 (in32_of rfl) ?_
      refine r_iaddN (pc := 101) (c := ((k + 1 : Nat) : Int)) dX5_runPass_101 (by unfold w32; omega) ?_
      refine r_putfi (pc := 102) cks dX5_runPass_102 fl_X5_29 (pf_5_5 _ _) rfl (kD0 hDE) (ltD0 hDE) ?_
      refine r_mem (I2 := sr E.2.1 m (un (E.2.1 m) 5 ((k + 1 : Nat) : Int))) ((up2_row _ _ _ _).trans ((congrArg (fun fz_ => sr E.2.1 m (un fz_ 5 ((k + 1 : Nat) : Int))) (show E.2.1 m = E.2.1 m from rfl)).trans (rfl))) ?_
      refine r_iload (pc := 105) (i := 6) dX5_runPass_105 rfl ?_
      refine r_aload_n (pc := 107) (i := 0) dX5_runPass_107 rfl rfl ?_
      refine r_getfi (pc := 108) cks dX5_runPass_108 fl_X5_22 rfl (kD0 hDE) (ltD0 hDE) ?_
      refine r_top (b := (un (E.2.1 m) 5 ((k + 1 : Nat) : Int)) 3) (sr_at _ _ _ _) ?_
      refine r_top (b := E.2.1 m 3) ((un_ne (by decide))) ?_
      refine r_top (b := (B : Int)) (hP3.2.2.2.2.2.2.2.2.1) ?_
      refine r_aload_n (pc := 111) (i := 0) dX5_runPass_111 rfl rfl ?_
      refine r_getfi (pc := 112) cks dX5_runPass_112 fl_X5_26 rfl (kD0 hDE) (ltD0 hDE) ?_
      refine r_top (b := (un (E.2.1 m) 5 ((k + 1 : Nat) : Int)) 4) (sr_at _ _ _ _) ?_
      refine r_top (b := E.2.1 m 4) ((un_ne (by decide))) ?_
      refine r_top (b := (q : Int)) (hP3.2.2.2.2.2.2.2.2.2) ?_
      refine r_ishl (pc := 115) dX5_runPass_115 ?_
      refine r_top (b := ((z : Nat) : Int)) (by rw [isl_n (by omega) (by omega) (by omega), hz]; simp) ?_
      refine r_imulN (pc := 116) (c := (((k * z) : Nat) : Int)) dX5_runPass_116 (w32_mul (by omega)) ?_
      refine r_istore (pc := 117) (i := 7) (lv' := [_, _, _, _, _, _, _, _, _, _, _]) dX5_runPass_117 (by decide) rfl ?_
      have h5 := RpI_m5 (x := ((k + 1 : Nat) : Int)) hS hm0.1 hdm hP3.2
      have hmi := psS_ok hq6 hn2 (by omega) hoN h0.2.1.1 hbd k (by rw [← hz]; exact hP3.1)
      have hmt := hmi.2.2.1
      refine r_aload_n (pc := 119) (i := 0) dX5_runPass_119 rfl rfl ?_
      refine r_aload_n (pc := 120) (i := 1) dX5_runPass_120 rfl rfl ?_
      refine r_aload_n (pc := 121) (i := 0) dX5_runPass_121 rfl rfl ?_
      refine r_getfi (pc := 122) cks dX5_runPass_122 fl_X5_26 rfl (kD0 hDE) (ltD0 hDE) ?_
      refine r_top (b := (un (E.2.1 m) 5 ((k + 1 : Nat) : Int)) 4) (sr_at _ _ _ _) ?_
      refine r_top (b := E.2.1 m 4) ((un_ne (by decide))) ?_
      refine r_top (b := (q : Int)) (hP3.2.2.2.2.2.2.2.2.2) ?_
      refine r_iload (pc := 125) (i := 7) dX5_runPass_125 rfl ?_
      refine r_iload (pc := 127) (i := 4) dX5_runPass_127 rfl ?_
      refine r_aload_n (pc := 129) (i := 0) dX5_runPass_129 rfl rfl ?_
      refine r_getfi (pc := 130) cks dX5_runPass_130 fl_X5_22 rfl (kD0 hDE) (ltD0 hDE) ?_
      refine r_top (b := (un (E.2.1 m) 5 ((k + 1 : Nat) : Int)) 3) (sr_at _ _ _ _) ?_
      refine r_top (b := E.2.1 m 3) ((un_ne (by decide))) ?_
      refine r_top (b := (B : Int)) (hP3.2.2.2.2.2.2.2.2.1) ?_
      refine r_aload_n (pc := 133) (i := 0) dX5_runPass_133 rfl rfl ?_
      refine r_getfi (pc := 134) cks dX5_runPass_134 fl_X5_26 rfl (kD0 hDE) (ltD0 hDE) ?_
      refine r_top (b := (un (E.2.1 m) 5 ((k + 1 : Nat) : Int)) 4) (sr_at _ _ _ _) ?_
      refine r_top (b := E.2.1 m 4) ((un_ne (by decide))) ?_
      refine r_top (b := (q : Int)) (hP3.2.2.2.2.2.2.2.2.2) ?_
      refine r_ishl (pc := 137) dX5_runPass_137 ?_
      refine r_top (b := ((z : Nat) : Int)) (by rw [isl_n (by omega) (by omega) (by omega), hz]; simp) ?_
      refine r_iload (pc := 138) (i := 6) dX5_runPass_138 rfl ?_
      refine r_callS1 (pc := 140) (d - 1) [aI ((n : Nat) : Int), aI ((z : Nat) : Int), aI ((k : Nat) : Int)] dX5_runPass_140 (CS.mk2 mk_X11_lengthOf lk_X5_61) rfl rfl (by omega) (Nat.le_of_ble_eq_true rfl) (Nat.le_of_ble_eq_true rfl) (k_lengthOf (n := n) (z := z) (k := k) (by omega) hn2 (by omega) (by omega) ?_)
      refine ⟨_, rfl, fun _ => ?_⟩
      refine r_callV1 (pc := 143) (d - 1) [aR s, aI ((q : Nat) : Int), aI (((k * z) : Nat) : Int), aI (((lnB n z (k * z)) : Nat) : Int)] dX5_runPass_143 (CV.mk2 mk_X5_ask lk_X5_65) (RC.of (ltD0 hDE) (kD0 hDE) (by decide) rfl) rfl rfl (by omega) (Nat.le_of_ble_eq_true rfl) (Nat.le_of_ble_eq_true rfl) (k_ask (m := m) (q := q) (b := k * z) (l := lnB n z (k * z)) (e := q + 1) (n := n) (M := psS B n q (shF N q n) k) h5.1.1 (by omega) (ShD_ext hD h5.2.2.2.1.1 hdm) hdm h5.1 h5.2.1.1 h5.2.1.2 (by omega) (by omega) (by omega) (by omega) (fun U K p2 o2 t2 c2 hA => ?_))
      refine ⟨_, rfl, fun _ => ?_⟩
      refine r_istore (pc := 146) (i := 8) (lv' := [_, _, _, _, _, _, _, _, _, _, _]) dX5_runPass_146 (by decide) rfl ?_
      have hRA := RpI_ask (E := (E.1, sr E.2.1 m (un (E.2.1 m) 5 ((k + 1 : Nat) : Int)), E.2.2)) hS hm0.1 hdm h5 hq6 (by omega) (by omega) (by omega) hA
      have hDE := ShD_ext hD hRA.2.2.2.1.1 hdm
      have hSE := hRA.1.1
      have hKm : K m 5 = ((k + 1 : Nat) : Int) := (congrFun (as_m h5.1.1 hm0.1 hdm hA) 5).trans ((congrFun (sr_row _ _ _) 5).trans un_at)
      have hIn := InI_start (b := k * z) (l := lnB n z (k * z)) hn2 hB1 hq6 hoN hmi (by omega) (by rw [hz]) (by omega) (by omega) (by rw [hz])
      obtain ⟨o0, ho0⟩ : ∃ o0 : F3, o0 = (if ukO (psS B n q (shF N q n) k) q (k * z) (lnB n z (k * z)) = 1 then some (lnB n z (k * z), q, k * z) else none) := ⟨_, rfl⟩
      rw [← ho0] at hIn
      refine r_iload (pc := 148) (i := 8) dX5_runPass_148 rfl ?_
      refine r_if_eq (pc := 150) (tgt := 167) dX5_runPass_150 rfl (fun c150 => ?_) (fun c150 => ?_)
      · refine r_iconst (pc := 167) dX5_runPass_167 (in32_of rfl) ?_
        refine r_top (b := ecF B o0) (by rw [ho0, if_neg (by omega)]; rfl) ?_
        refine r_istore (pc := 168) (i := 9) (lv' := [_, _, _, _, _, _, _, _, _, _, _]) dX5_runPass_168 (by decide) rfl ?_
        refine r_iconst (pc := 170) dX5_runPass_170 (in32_of rfl) ?_
        refine r_istore (pc := 171) (i := 10) (lv' := [_, _, _, _, _, _, _, _, _, _, _]) dX5_runPass_171 (by decide) rfl ?_
        refine loop4 (fun (j : Nat) (E2 : WE) (M2 : Nat → Int) (o1 : F3) => RpI T I s m p o t c E2 M2 (shF N q n) n B q ∧ E2.2.1 m 5 = ((k + 1 : Nat) : Int) ∧ InI B n q (k * z + lnB n z (k * z)) (psT B n q (psS B n q (shF N q n) k) (k * z)) (shF N q n) M2 (k + 1) o1 j ∧ j ≤ 256) (fun (j : Nat) (E2 : WE) (M2 : Nat → Int) (o1 : F3) => 256 - j) (fun (j : Nat) (E2 : WE) (M2 : Nat → Int) (o1 : F3) => [some (aR m), some (aR s), some (aI ((B : Nat) : Int)), some (aI (N 7)), some (aI ((n : Nat) : Int)), some (aI (((nbk n z) : Nat) : Int)), some (aI ((k : Nat) : Int)), some (aI (((k * z) : Nat) : Int)), some (aI (ukO (psS B n q (shF N q n) k) q (k * z) (lnB n z (k * z)))), some (aI (ecF B o1)), some (aI ((j : Nat) : Int))]) (fun (j : Nat) (E2 : WE) (M2 : Nat → Int) (o1 : F3) => E2.1) (fun (j : Nat) (E2 : WE) (M2 : Nat → Int) (o1 : F3) => E2.2.1) ?_ 0 (U, K, p2, o2, t2, c2) (askF (psS B n q (shF N q n) k) q (k * z) (lnB n z (k * z))) o0 ⟨hRA, hKm, hIn, Nat.zero_le _⟩
        intro j E2 M2 o1 hP4 ih4
        have hP4 : RpI T I s m p o t c E2 M2 (shF N q n) n B q ∧ E2.2.1 m 5 = ((k + 1 : Nat) : Int) ∧ InI B n q (k * z + lnB n z (k * z)) (psT B n q (psS B n q (shF N q n) k) (k * z)) (shF N q n) M2 (k + 1) o1 j ∧ j ≤ 256 := hP4
        have hDE := ShD_ext hD hP4.1.2.2.2.1.1 hdm
        have hSE := hP4.1.1.1
        refine (?_ : Ev G mX5_runPass d 173 [some (aR m), some (aR s), some (aI ((B : Nat) : Int)), some (aI (N 7)), some (aI ((n : Nat) : Int)), some (aI (((nbk n z) : Nat) : Int)), some (aI ((k : Nat) : Int)), some (aI (((k * z) : Nat) : Int)), some (aI (ukO (psS B n q (shF N q n) k) q (k * z) (lnB n z (k * z)))), some (aI (ecF B o1)), some (aI ((j : Nat) : Int))] [] E2.1 E2.2.1 Q)
        refine r_iload (pc := 173) (i := 10) dX5_runPass_173 rfl ?_
        refine r_sipush (pc := 175) dX5_runPass_175 rfl (in32_of rfl) ?_
        refine r_icmp_ge (pc := 178) (tgt := 218) dX5_runPass_178 rfl (fun c178 => ?_) (fun c178 => ?_)
        · have ho1 : o1 = none := by cases hoo : o1 with | none => rfl | some tt => exact absurd (hoo ▸ hP4.2.2.1) (InI_256 (by omega))
          have hG := hP4.2.2.1.2.1 ho1
          refine r_iincN (pc := 218) (i := 6) (c := ((k + 1 : Nat) : Int)) (lv' := [_, _, _, _, _, _, _, _, _, _, _]) dX5_runPass_218 rfl (by decide) (by unfold w32; omega) rfl ?_
          refine r_goto (pc := 221) (tgt := 90) dX5_runPass_221 rfl ?_
          refine Ev.weak (lv2 := [some (aR m), some (aR s), some (aI ((B : Nat) : Int)), some (aI (N 7)), some (aI ((n : Nat) : Int)), some (aI (((nbk n z) : Nat) : Int)), some (aI ((k + 1 : Nat) : Int)), none, none, none, none]) ⟨Or.inr rfl, Or.inr rfl, Or.inr rfl, Or.inr rfl, Or.inr rfl, Or.inr rfl, Or.inr rfl, Or.inl rfl, Or.inl rfl, Or.inl rfl, Or.inl rfl, trivial⟩ ?_
          exact ih3 (k + 1) E2 ⟨by omega, by rw [psS_succ, ← hz, hG]; exact hP4.1⟩ (by omega)
        · refine r_iload (pc := 181) (i := 9) dX5_runPass_181 rfl ?_
          refine r_iconst (pc := 183) dX5_runPass_183 (in32_of rfl) ?_
          refine r_icmp_eq (pc := 184) (tgt := 218) dX5_runPass_184 rfl (fun c184 => ?_) (fun c184 => ?_)
          · have ho1 : o1 = none := ecF_none.mp c184
            have hG := hP4.2.2.1.2.1 ho1
            refine r_iincN (pc := 218) (i := 6) (c := ((k + 1 : Nat) : Int)) (lv' := [_, _, _, _, _, _, _, _, _, _, _]) dX5_runPass_218 rfl (by decide) (by unfold w32; omega) rfl ?_
            refine r_goto (pc := 221) (tgt := 90) dX5_runPass_221 rfl ?_
            refine Ev.weak (lv2 := [some (aR m), some (aR s), some (aI ((B : Nat) : Int)), some (aI (N 7)), some (aI ((n : Nat) : Int)), some (aI (((nbk n z) : Nat) : Int)), some (aI ((k + 1 : Nat) : Int)), none, none, none, none]) ⟨Or.inr rfl, Or.inr rfl, Or.inr rfl, Or.inr rfl, Or.inr rfl, Or.inr rfl, Or.inr rfl, Or.inl rfl, Or.inl rfl, Or.inl rfl, Or.inl rfl, trivial⟩ ?_
            exact ih3 (k + 1) E2 ⟨by omega, by rw [psS_succ, ← hz, hG]; exact hP4.1⟩ (by omega)
          · obtain ⟨y, i, hyi, hi128⟩ := hP4.2.2.1.2.2.2.1 (fun h => c184 (ecF_none.mpr h))
            obtain ⟨w1, w2, w3, w4, w5⟩ := hP4.2.2.1.2.2.1 y i hyi hi128
            refine Ev.re (lv2 := [some (aR m), some (aR s), some (aI ((B : Nat) : Int)), some (aI (N 7)), some (aI ((n : Nat) : Int)), some (aI (((nbk n z) : Nat) : Int)), some (aI ((k : Nat) : Int)), some (aI (((k * z) : Nat) : Int)), some (aI (ukO (psS B n q (shF N q n) k) q (k * z) (lnB n z (k * z)))), some (aI (((128 * y + i) : Nat) : Int)), some (aI ((j : Nat) : Int))]) (by rw [hyi]) rfl ?_
            have hmi4 := hP4.2.2.1.1
            refine r_aload_n (pc := 187) (i := 0) dX5_runPass_187 rfl rfl ?_
            refine r_aload_n (pc := 188) (i := 1) dX5_runPass_188 rfl rfl ?_
            refine r_iload (pc := 189) (i := 9) dX5_runPass_189 rfl ?_
            refine r_sipush (pc := 191) dX5_runPass_191 rfl (in32_of rfl) ?_
            refine r_idiv (pc := 194) dX5_runPass_194 (by omega) ?_
            refine r_top (b := ((y : Nat) : Int)) (by rw [idv_n (by unfold in32; omega) (by unfold in32; omega) (by omega) (by omega)]; omega) ?_
            refine r_iload (pc := 195) (i := 9) dX5_runPass_195 rfl ?_
            refine r_sipush (pc := 197) dX5_runPass_197 rfl (in32_of rfl) ?_
            refine r_irem (pc := 200) dX5_runPass_200 (by omega) ?_
            refine r_top (b := ((i : Nat) : Int)) (by rw [irm_n (by unfold in32; omega) (by unfold in32; omega) (by omega) (by omega)]; omega) ?_
            refine r_callV0 (pc := 201) (d - 1) [aR s, aI ((y : Nat) : Int), aI ((i : Nat) : Int)] dX5_runPass_201 (CV.mk2 mk_X5_halve lk_X5_69) (RC.of (ltD0 hDE) (kD0 hDE) (by decide) rfl) rfl rfl (by omega) (Nat.le_of_ble_eq_true rfl) (Nat.le_of_ble_eq_true rfl) (k_halve (m := m) (q := y) (k := i) (e := q + 1) (n := n) (B := B) (q0 := q) (M := M2) hP4.1.1.1 (by omega) (ShD_ext hD hP4.1.2.2.2.1.1 hdm) hdm hP4.1.1 hP4.1.2.1.1 hP4.1.2.1.2 rfl w1 hB1 hB2 hP4.1.2.2.2.2.2.2.2.1 hP4.1.2.2.2.2.2.2.2.2 w2 (by have := hmi4.2.2.1; omega) hP4.1.2.2.1.1 hP4.1.2.2.1.2 (fun U2 K2 p3 o3 t3 c3 hH => ?_))
            refine ⟨rfl, fun _ => ?_⟩
            have hRH := RpI_hv hS hm0.1 hdm hP4.1 hH
            have hDE := ShD_ext hD hRH.1.2.2.2.1.1 hdm
            have hSE := hRH.1.1.1
            refine r_aload_n (pc := 204) (i := 0) dX5_runPass_204 rfl rfl ?_
            refine r_iload (pc := 205) (i := 4) dX5_runPass_205 rfl ?_
            refine r_callV1 (pc := 207) (d - 1) [aI ((n : Nat) : Int)] dX5_runPass_207 (CV.mk2 mk_X5_shortestOdd lk_X5_73) (RC.of (ltD0 hDE) (kD0 hDE) (by decide) rfl) rfl rfl (by omega) (Nat.le_of_ble_eq_true rfl) (Nat.le_of_ble_eq_true rfl) (k_shortestOdd (m := m) (n := n) (B := B) (q0 := q) (ka := k + 1) (a := k * z + lnB n z (k * z)) (M := hvF M2 y (i * (B * 2 ^ y)) (lnB n (B * 2 ^ y) (i * (B * 2 ^ y)))) (ShD_ext hD hRH.1.2.2.2.1.1 hdm) (by omega) hn2 hB1 hB2 hq6 hRH.1.2.2.2.2.2.2.2.1 hRH.1.2.2.2.2.2.2.2.2 ((congrFun hRH.2 5).trans hP4.2.1) (by rw [← hz]; exact nbk_a (by omega) (by omega)) (by rw [← hz]; omega) hRH.1.2.2.1.1 ?_)
            refine ⟨_, rfl, fun _ => ?_⟩
            refine r_istore (pc := 210) (i := 9) (lv' := [_, _, _, _, _, _, _, _, _, _, _]) dX5_runPass_210 (by decide) rfl ?_
            refine r_iincN (pc := 212) (i := 10) (c := ((j + 1 : Nat) : Int)) (lv' := [_, _, _, _, _, _, _, _, _, _, _]) dX5_runPass_212 rfl (by decide) (by unfold w32; omega) rfl ?_
            refine r_goto (pc := 215) (tgt := 173) dX5_runPass_215 rfl ?_
            have hst2 := InI_step hn2 hB1 hq6 (by omega) hoN (by omega) hP4.2.2.1 (by omega) hyi hi128
            exact ih4 (j + 1) (U2, K2, p3, o3, t3, c3) (hvF M2 y (i * (B * 2 ^ y)) (lnB n (B * 2 ^ y) (i * (B * 2 ^ y)))) (fdF (hvF M2 y (i * (B * 2 ^ y)) (lnB n (B * 2 ^ y) (i * (B * 2 ^ y)))) B n q (k * z + lnB n z (k * z))) ⟨hRH.1, (congrFun hRH.2 5).trans hP4.2.1, hst2, by omega⟩ (by omega)
      · refine r_aload_n (pc := 153) (i := 0) dX5_runPass_153 rfl rfl ?_
        refine r_getfi (pc := 154) cks dX5_runPass_154 fl_X5_26 rfl (kD0 hDE) (ltD0 hDE) ?_
        refine r_top (b := (q : Int)) (hRA.2.2.2.2.2.2.2.2) ?_
        refine r_sipush (pc := 157) dX5_runPass_157 rfl (in32_of rfl) ?_
        refine r_imulN (pc := 160) (c := ((128 * q : Nat) : Int)) dX5_runPass_160 (by unfold w32; omega) ?_
        refine r_iload (pc := 161) (i := 6) dX5_runPass_161 rfl ?_
        refine r_iaddN (pc := 163) (c := ((128 * q + k : Nat) : Int)) dX5_runPass_163 (by unfold w32; omega) ?_
        refine r_goto (pc := 164) (tgt := 168) dX5_runPass_164 rfl ?_
        refine r_top (b := ecF B o0) (by rw [ho0, if_pos (by have := ukO_01 (psS B n q (shF N q n) k) q (k * z) (lnB n z (k * z)); omega), hz]; show _ = ((128 * q + k * (B * 2 ^ q) / (B * 2 ^ q) : Nat) : Int); rw [Nat.mul_div_cancel _ (by rw [← hz]; omega)]) ?_
        refine r_istore (pc := 168) (i := 9) (lv' := [_, _, _, _, _, _, _, _, _, _, _]) dX5_runPass_168 (by decide) rfl ?_
        refine r_iconst (pc := 170) dX5_runPass_170 (in32_of rfl) ?_
        refine r_istore (pc := 171) (i := 10) (lv' := [_, _, _, _, _, _, _, _, _, _, _]) dX5_runPass_171 (by decide) rfl ?_
        refine loop4 (fun (j : Nat) (E2 : WE) (M2 : Nat → Int) (o1 : F3) => RpI T I s m p o t c E2 M2 (shF N q n) n B q ∧ E2.2.1 m 5 = ((k + 1 : Nat) : Int) ∧ InI B n q (k * z + lnB n z (k * z)) (psT B n q (psS B n q (shF N q n) k) (k * z)) (shF N q n) M2 (k + 1) o1 j ∧ j ≤ 256) (fun (j : Nat) (E2 : WE) (M2 : Nat → Int) (o1 : F3) => 256 - j) (fun (j : Nat) (E2 : WE) (M2 : Nat → Int) (o1 : F3) => [some (aR m), some (aR s), some (aI ((B : Nat) : Int)), some (aI (N 7)), some (aI ((n : Nat) : Int)), some (aI (((nbk n z) : Nat) : Int)), some (aI ((k : Nat) : Int)), some (aI (((k * z) : Nat) : Int)), some (aI (ukO (psS B n q (shF N q n) k) q (k * z) (lnB n z (k * z)))), some (aI (ecF B o1)), some (aI ((j : Nat) : Int))]) (fun (j : Nat) (E2 : WE) (M2 : Nat → Int) (o1 : F3) => E2.1) (fun (j : Nat) (E2 : WE) (M2 : Nat → Int) (o1 : F3) => E2.2.1) ?_ 0 (U, K, p2, o2, t2, c2) (askF (psS B n q (shF N q n) k) q (k * z) (lnB n z (k * z))) o0 ⟨hRA, hKm, hIn, Nat.zero_le _⟩
        intro j E2 M2 o1 hP4 ih4
        have hP4 : RpI T I s m p o t c E2 M2 (shF N q n) n B q ∧ E2.2.1 m 5 = ((k + 1 : Nat) : Int) ∧ InI B n q (k * z + lnB n z (k * z)) (psT B n q (psS B n q (shF N q n) k) (k * z)) (shF N q n) M2 (k + 1) o1 j ∧ j ≤ 256 := hP4
        have hDE := ShD_ext hD hP4.1.2.2.2.1.1 hdm
        have hSE := hP4.1.1.1
        refine (?_ : Ev G mX5_runPass d 173 [some (aR m), some (aR s), some (aI ((B : Nat) : Int)), some (aI (N 7)), some (aI ((n : Nat) : Int)), some (aI (((nbk n z) : Nat) : Int)), some (aI ((k : Nat) : Int)), some (aI (((k * z) : Nat) : Int)), some (aI (ukO (psS B n q (shF N q n) k) q (k * z) (lnB n z (k * z)))), some (aI (ecF B o1)), some (aI ((j : Nat) : Int))] [] E2.1 E2.2.1 Q)
        refine r_iload (pc := 173) (i := 10) dX5_runPass_173 rfl ?_
        refine r_sipush (pc := 175) dX5_runPass_175 rfl (in32_of rfl) ?_
        refine r_icmp_ge (pc := 178) (tgt := 218) dX5_runPass_178 rfl (fun c178 => ?_) (fun c178 => ?_)
        · have ho1 : o1 = none := by cases hoo : o1 with | none => rfl | some tt => exact absurd (hoo ▸ hP4.2.2.1) (InI_256 (by omega))
          have hG := hP4.2.2.1.2.1 ho1
          refine r_iincN (pc := 218) (i := 6) (c := ((k + 1 : Nat) : Int)) (lv' := [_, _, _, _, _, _, _, _, _, _, _]) dX5_runPass_218 rfl (by decide) (by unfold w32; omega) rfl ?_
          refine r_goto (pc := 221) (tgt := 90) dX5_runPass_221 rfl ?_
          refine Ev.weak (lv2 := [some (aR m), some (aR s), some (aI ((B : Nat) : Int)), some (aI (N 7)), some (aI ((n : Nat) : Int)), some (aI (((nbk n z) : Nat) : Int)), some (aI ((k + 1 : Nat) : Int)), none, none, none, none]) ⟨Or.inr rfl, Or.inr rfl, Or.inr rfl, Or.inr rfl, Or.inr rfl, Or.inr rfl, Or.inr rfl, Or.inl rfl, Or.inl rfl, Or.inl rfl, Or.inl rfl, trivial⟩ ?_
          exact ih3 (k + 1) E2 ⟨by omega, by rw [psS_succ, ← hz, hG]; exact hP4.1⟩ (by omega)
        · refine r_iload (pc := 181) (i := 9) dX5_runPass_181 rfl ?_
          refine r_iconst (pc := 183) dX5_runPass_183 (in32_of rfl) ?_
          refine r_icmp_eq (pc := 184) (tgt := 218) dX5_runPass_184 rfl (fun c184 => ?_) (fun c184 => ?_)
          · have ho1 : o1 = none := ecF_none.mp c184
            have hG := hP4.2.2.1.2.1 ho1
            refine r_iincN (pc := 218) (i := 6) (c := ((k + 1 : Nat) : Int)) (lv' := [_, _, _, _, _, _, _, _, _, _, _]) dX5_runPass_218 rfl (by decide) (by unfold w32; omega) rfl ?_
            refine r_goto (pc := 221) (tgt := 90) dX5_runPass_221 rfl ?_
            refine Ev.weak (lv2 := [some (aR m), some (aR s), some (aI ((B : Nat) : Int)), some (aI (N 7)), some (aI ((n : Nat) : Int)), some (aI (((nbk n z) : Nat) : Int)), some (aI ((k + 1 : Nat) : Int)), none, none, none, none]) ⟨Or.inr rfl, Or.inr rfl, Or.inr rfl, Or.inr rfl, Or.inr rfl, Or.inr rfl, Or.inr rfl, Or.inl rfl, Or.inl rfl, Or.inl rfl, Or.inl rfl, trivial⟩ ?_
            exact ih3 (k + 1) E2 ⟨by omega, by rw [psS_succ, ← hz, hG]; exact hP4.1⟩ (by omega)
          · obtain ⟨y, i, hyi, hi128⟩ := hP4.2.2.1.2.2.2.1 (fun h => c184 (ecF_none.mpr h))
            obtain ⟨w1, w2, w3, w4, w5⟩ := hP4.2.2.1.2.2.1 y i hyi hi128
            refine Ev.re (lv2 := [some (aR m), some (aR s), some (aI ((B : Nat) : Int)), some (aI (N 7)), some (aI ((n : Nat) : Int)), some (aI (((nbk n z) : Nat) : Int)), some (aI ((k : Nat) : Int)), some (aI (((k * z) : Nat) : Int)), some (aI (ukO (psS B n q (shF N q n) k) q (k * z) (lnB n z (k * z)))), some (aI (((128 * y + i) : Nat) : Int)), some (aI ((j : Nat) : Int))]) (by rw [hyi]) rfl ?_
            have hmi4 := hP4.2.2.1.1
            refine r_aload_n (pc := 187) (i := 0) dX5_runPass_187 rfl rfl ?_
            refine r_aload_n (pc := 188) (i := 1) dX5_runPass_188 rfl rfl ?_
            refine r_iload (pc := 189) (i := 9) dX5_runPass_189 rfl ?_
            refine r_sipush (pc := 191) dX5_runPass_191 rfl (in32_of rfl) ?_
            refine r_idiv (pc := 194) dX5_runPass_194 (by omega) ?_
            refine r_top (b := ((y : Nat) : Int)) (by rw [idv_n (by unfold in32; omega) (by unfold in32; omega) (by omega) (by omega)]; omega) ?_
            refine r_iload (pc := 195) (i := 9) dX5_runPass_195 rfl ?_
            refine r_sipush (pc := 197) dX5_runPass_197 rfl (in32_of rfl) ?_
            refine r_irem (pc := 200) dX5_runPass_200 (by omega) ?_
            refine r_top (b := ((i : Nat) : Int)) (by rw [irm_n (by unfold in32; omega) (by unfold in32; omega) (by omega) (by omega)]; omega) ?_
            refine r_callV0 (pc := 201) (d - 1) [aR s, aI ((y : Nat) : Int), aI ((i : Nat) : Int)] dX5_runPass_201 (CV.mk2 mk_X5_halve lk_X5_69) (RC.of (ltD0 hDE) (kD0 hDE) (by decide) rfl) rfl rfl (by omega) (Nat.le_of_ble_eq_true rfl) (Nat.le_of_ble_eq_true rfl) (k_halve (m := m) (q := y) (k := i) (e := q + 1) (n := n) (B := B) (q0 := q) (M := M2) hP4.1.1.1 (by omega) (ShD_ext hD hP4.1.2.2.2.1.1 hdm) hdm hP4.1.1 hP4.1.2.1.1 hP4.1.2.1.2 rfl w1 hB1 hB2 hP4.1.2.2.2.2.2.2.2.1 hP4.1.2.2.2.2.2.2.2.2 w2 (by have := hmi4.2.2.1; omega) hP4.1.2.2.1.1 hP4.1.2.2.1.2 (fun U2 K2 p3 o3 t3 c3 hH => ?_))
            refine ⟨rfl, fun _ => ?_⟩
            have hRH := RpI_hv hS hm0.1 hdm hP4.1 hH
            have hDE := ShD_ext hD hRH.1.2.2.2.1.1 hdm
            have hSE := hRH.1.1.1
            refine r_aload_n (pc := 204) (i := 0) dX5_runPass_204 rfl rfl ?_
            refine r_iload (pc := 205) (i := 4) dX5_runPass_205 rfl ?_
            refine r_callV1 (pc := 207) (d - 1) [aI ((n : Nat) : Int)] dX5_runPass_207 (CV.mk2 mk_X5_shortestOdd lk_X5_73) (RC.of (ltD0 hDE) (kD0 hDE) (by decide) rfl) rfl rfl (by omega) (Nat.le_of_ble_eq_true rfl) (Nat.le_of_ble_eq_true rfl) (k_shortestOdd (m := m) (n := n) (B := B) (q0 := q) (ka := k + 1) (a := k * z + lnB n z (k * z)) (M := hvF M2 y (i * (B * 2 ^ y)) (lnB n (B * 2 ^ y) (i * (B * 2 ^ y)))) (ShD_ext hD hRH.1.2.2.2.1.1 hdm) (by omega) hn2 hB1 hB2 hq6 hRH.1.2.2.2.2.2.2.2.1 hRH.1.2.2.2.2.2.2.2.2 ((congrFun hRH.2 5).trans hP4.2.1) (by rw [← hz]; exact nbk_a (by omega) (by omega)) (by rw [← hz]; omega) hRH.1.2.2.1.1 ?_)
            refine ⟨_, rfl, fun _ => ?_⟩
            refine r_istore (pc := 210) (i := 9) (lv' := [_, _, _, _, _, _, _, _, _, _, _]) dX5_runPass_210 (by decide) rfl ?_
            refine r_iincN (pc := 212) (i := 10) (c := ((j + 1 : Nat) : Int)) (lv' := [_, _, _, _, _, _, _, _, _, _, _]) dX5_runPass_212 rfl (by decide) (by unfold w32; omega) rfl ?_
            refine r_goto (pc := 215) (tgt := 173) dX5_runPass_215 rfl ?_
            have hst2 := InI_step hn2 hB1 hq6 (by omega) hoN (by omega) hP4.2.2.1 (by omega) hyi hi128
            exact ih4 (j + 1) (U2, K2, p3, o3, t3, c3) (hvF M2 y (i * (B * 2 ^ y)) (lnB n (B * 2 ^ y) (i * (B * 2 ^ y)))) (fdF (hvF M2 y (i * (B * 2 ^ y)) (lnB n (B * 2 ^ y) (i * (B * 2 ^ y)))) B n q (k * z + lnB n z (k * z))) ⟨hRH.1, (congrFun hRH.2 5).trans hP4.2.1, hst2, by omega⟩ (by omega)
  · have hMJ : ∀ D : (Nat → Int) × (Nat → Int), MwR T (sr (sr J (m + 1) D.1) (m + 2) D.2) s p o t c (shF N q n) (q + 1) n := mj_W hS hm0.1 hdm h0.1
    have hmJ : ∀ D : (Nat → Int) × (Nat → Int), (sr (sr J (m + 1) D.1) (m + 2) D.2) m 3 = (B : Int) := fun D => by rw [sr_ne (by omega), sr_ne (by omega), hJm, un_ne (by decide), un_at]
    refine r_aload_n (pc := 49) (i := 0) dX5_runPass_49 rfl rfl ?_
    refine r_aload_n (pc := 50) (i := 1) dX5_runPass_50 rfl rfl ?_
    refine r_iload (pc := 51) (i := 4) dX5_runPass_51 rfl ?_
    refine r_callV0 (pc := 53) (d - 1) [aR s, aI ((y : Nat) : Int)] dX5_runPass_53 (CV.mk2 mk_X5_mapBlocks lk_X5_44) (RC.of (ltD0 hD) (kD0 hD) (by decide) rfl) rfl rfl (by omega) (Nat.le_of_ble_eq_true rfl) (Nat.le_of_ble_eq_true rfl) (k_mapBlocks (m := m) (y := y) (e := q + 1) (n := n) (B := B) (z := B * 2 ^ y) (M := shF N q n) hS (by omega) hD hdm (hMJ D) h0.2.1 (by omega) hB1 hB2 (hmJ D) rfl (fun F O hF1 hO1 hF2 hO2 => ?_))
    refine ⟨rfl, fun _ => ?_⟩
    refine r_mem (I2 := sr (sr J (m + 1) F) (m + 2) O) ((congrArg (fun X => sr X (m + 2) O) ((sr_comm (by omega)).trans (congrArg (fun J => sr J (m + 2) D.2) (sr_sr _ _ _ _)))).trans (sr_sr _ _ _ _)) ?_
    have hF2 : ∀ j, ¬ (256 * y ≤ j ∧ j < 256 * y + 256) → F j = D.1 j := fun j hj => (hF2 j hj).trans (congrFun (show (sr (sr J (m + 1) D.1) (m + 2) D.2) (m + 1) = D.1 from by rw [sr_ne (by omega), sr_row]) j)
    have hO2 : ∀ j, ¬ (128 * y ≤ j ∧ j < 128 * y + 128) → O j = D.2 j := fun j hj => (hO2 j hj).trans (congrFun (show (sr (sr J (m + 1) D.1) (m + 2) D.2) (m + 2) = D.2 from sr_row _ _ _) j)
    refine r_iincN (pc := 56) (i := 4) (c := ((y + 1 : Nat) : Int)) (lv' := [_, _, _, _, _, _, _, _, _, _, _]) dX5_runPass_56 rfl (by decide) (by unfold w32; omega) rfl ?_
    refine r_goto (pc := 59) (tgt := 40) dX5_runPass_59 rfl ?_
    have hoB := h0.2.1.2.2.2.2.1
    exact ih (y + 1) (F, O) ⟨by omega, fun v hv i hi => mb_F (hP.2.1 v) hF1 hF2 hv (hoB v (by omega) i hi) hn2 hi (fun e => by rw [e]), fun v hv w hw => mb_O (hP.2.2 v) hO1 hO2 hv hB1 hn2 hw⟩ (by omega)
end C24
