section C11
variable {G : Gl} {d : Nat} {T : Sh} {I : Mi} {N : Nat → Int} {Q : Option AV → Sh → Mi → Prop}
theorem k_tell65 {w n0 : Nat} {x y : Int} {s p o t c : Nat} (hS : ShS T s p o t c) (hd : 1 ≤ d) (hn0 : I (s + 7) 0 = (n0 : Int)) (hnc : n0 < c) (hc : c ≤ 16384) (hw1 : kd T w = 23) (hw2 : ln T w = 4) (hw3 : w < 291) (hw4 : w < s ∨ s + 15 ≤ w) (hq : Q none T (sr (sr (sr (sr I p (un (I p) n0 x)) o (un (I o) n0 y)) t (cpyR (I w) 0 (I t) (4 * n0) 4)) (s + 7) (un (I (s + 7)) 0 ((n0 + 1 : Nat) : Int)))) : Ev G mX4_tell d 65 [some (aR (s + 7)), some (aI x), some (aI y), some (aR w)] [] T I Q := by
  have hne := neS hS
  have hw5 : w < nx T := by have := hS.1.2.1; omega
  refine r_aload_n (pc := 65) (i := 0) dX4_tell_65 rfl rfl ?_
  refine r_getfr (pc := 66) (b := p) cks dX4_tell_66 fl_X4_15 rfl (kS7 hS) (ltS (k := 7) hS (by omega)) (rS7_1 hS) ?_
  refine r_aload_n (pc := 69) (i := 0) dX4_tell_69 rfl rfl ?_
  refine r_getfi (pc := 70) cks dX4_tell_70 fl_X4_9 rfl (kS7 hS) (ltS (k := 7) hS (by omega)) ?_
  refine r_top (b := ((n0 : Nat) : Int)) (hn0) ?_
  refine r_iload_n (pc := 73) (i := 1) dX4_tell_73 rfl rfl ?_
  refine r_ist (pc := 74) (n0) dX4_tell_74 (kp_ hS) (ltp hS) rfl (by rw [lp_ hS]; omega) ?_
  refine r_mem (I2 := sr I p (un (I p) n0 x)) ((up2_row _ _ _ _).trans ((congrArg (fun fz_ => sr I p (un fz_ n0 x)) (show I p = I p from rfl)).trans (rfl))) ?_
  refine r_aload_n (pc := 75) (i := 0) dX4_tell_75 rfl rfl ?_
  refine r_getfr (pc := 76) (b := o) cks dX4_tell_76 fl_X4_19 rfl (kS7 hS) (ltS (k := 7) hS (by omega)) (rS7_2 hS) ?_
  refine r_aload_n (pc := 79) (i := 0) dX4_tell_79 rfl rfl ?_
  refine r_getfi (pc := 80) cks dX4_tell_80 fl_X4_9 rfl (kS7 hS) (ltS (k := 7) hS (by omega)) ?_
  refine r_top (b := I (s + 7) 0) ((congrFun (sr_ne (by omega)) _).trans (rfl)) ?_
  refine r_top (b := ((n0 : Nat) : Int)) (hn0) ?_
  refine r_iload_n (pc := 83) (i := 2) dX4_tell_83 rfl rfl ?_
  refine r_ist (pc := 84) (n0) dX4_tell_84 (ko_ hS) (lto hS) rfl (by rw [lo_ hS]; omega) ?_
  refine r_mem (I2 := sr (sr I p (un (I p) n0 x)) o (un (I o) n0 y)) ((up2_row _ _ _ _).trans ((congrArg (fun fz_ => sr (sr I p (un (I p) n0 x)) o (un fz_ n0 y)) (show (sr I p (un (I p) n0 x)) o = I o from (sr_ne (by omega)).trans (rfl))).trans (rfl))) ?_
  refine r_aload_n (pc := 85) (i := 3) dX4_tell_85 rfl rfl ?_
  refine r_iconst (pc := 86) dX4_tell_86 (in32_of rfl) ?_
  refine r_aload_n (pc := 87) (i := 0) dX4_tell_87 rfl rfl ?_
  refine r_getfr (pc := 88) (b := t) cks dX4_tell_88 fl_X4_22 rfl (kS7 hS) (ltS (k := 7) hS (by omega)) (rS7_3 hS) ?_
  refine r_aload_n (pc := 91) (i := 0) dX4_tell_91 rfl rfl ?_
  refine r_getfi (pc := 92) cks dX4_tell_92 fl_X4_9 rfl (kS7 hS) (ltS (k := 7) hS (by omega)) ?_
  refine r_top (b := I (s + 7) 0) ((congrFun (sr_ne (by omega)) _).trans ((congrFun (sr_ne (by omega)) _).trans (rfl))) ?_
  refine r_top (b := ((n0 : Nat) : Int)) (hn0) ?_
  refine r_iconst (pc := 95) dX4_tell_95 (in32_of rfl) ?_
  refine r_imulN (pc := 96) (c := ((4 * n0 : Nat) : Int)) dX4_tell_96 (by unfold w32; omega) ?_
  refine r_iconst (pc := 97) dX4_tell_97 (in32_of rfl) ?_
  refine r_cpN (pc := 98) (a := t) (a0 := w) (0) (4 * n0) (4) dX4_tell_98 (by omega) ac_X4_26 (Nat.le_of_ble_eq_true rfl) (Or.inr (kt_ hS)) (hw1.trans (kt_ hS).symm) (ltt hS) hw5 (by omega) (by omega) (by omega) (by rw [hw2]; omega) (by rw [lt_ hS]; omega) ?_
  refine r_mem (I2 := sr (sr (sr I p (un (I p) n0 x)) o (un (I o) n0 y)) t (cpyR (I w) 0 (I t) (4 * n0) 4)) ((congr (congrArg (fun fz_ gz_ => sr (sr (sr I p (un (I p) n0 x)) o (un (I o) n0 y)) t (cpyR fz_ 0 gz_ (4 * n0) 4)) (show (sr (sr I p (un (I p) n0 x)) o (un (I o) n0 y)) w = I w from (sr_ne (by omega)).trans ((sr_ne (by omega)).trans (rfl)))) (show (sr (sr I p (un (I p) n0 x)) o (un (I o) n0 y)) t = I t from (sr_ne (by omega)).trans ((sr_ne (by omega)).trans (rfl)))).trans (rfl)) ?_
  refine r_aload_n (pc := 101) (i := 0) dX4_tell_101 rfl rfl ?_
  refine r_dup (pc := 102) dX4_tell_102 rfl ?_
  refine r_getfi (pc := 103) cks dX4_tell_103 fl_X4_9 rfl (kS7 hS) (ltS (k := 7) hS (by omega)) ?_
  refine r_top (b := I (s + 7) 0) ((congrFun (sr_ne (by omega)) _).trans ((congrFun (sr_ne (by omega)) _).trans ((congrFun (sr_ne (by omega)) _).trans (rfl)))) ?_
  refine r_top (b := ((n0 : Nat) : Int)) (hn0) ?_
  refine r_iconst (pc := 106) dX4_tell_106 (in32_of rfl) ?_
  refine r_iaddN (pc := 107) (c := ((n0 + 1 : Nat) : Int)) dX4_tell_107 (by unfold w32; omega) ?_
  refine r_putfi (pc := 108) cks dX4_tell_108 fl_X4_9 (pf_4_0 _ _) rfl (kS7 hS) (ltS (k := 7) hS (by omega)) ?_
  refine r_mem (I2 := sr (sr (sr (sr I p (un (I p) n0 x)) o (un (I o) n0 y)) t (cpyR (I w) 0 (I t) (4 * n0) 4)) (s + 7) (un (I (s + 7)) 0 ((n0 + 1 : Nat) : Int))) ((up2_row _ _ _ _).trans ((congrArg (fun fz_ => sr (sr (sr (sr I p (un (I p) n0 x)) o (un (I o) n0 y)) t (cpyR (I w) 0 (I t) (4 * n0) 4)) (s + 7) (un fz_ 0 ((n0 + 1 : Nat) : Int))) (show (sr (sr (sr I p (un (I p) n0 x)) o (un (I o) n0 y)) t (cpyR (I w) 0 (I t) (4 * n0) 4)) (s + 7) = I (s + 7) from (sr_ne (by omega)).trans ((sr_ne (by omega)).trans ((sr_ne (by omega)).trans (rfl))))).trans (rfl))) ?_
  exact r_vret (pc := 111) dX4_tell_111 trivial hq
theorem cap_le {T : Sh} {s p o t c : Nat} (h : ShS T s p o t c) : c ≤ 16384 := by
  obtain ⟨k, h1, h2⟩ := h.2.2.2
  have : (2 : Nat) ^ k ≤ 2 ^ 8 := Nat.pow_le_pow_right (by decide) h1
  have e : (2 : Nat) ^ 8 = 256 := by decide
  omega
theorem cap_2 {T : Sh} {s p o t c : Nat} (h : ShS T s p o t c) (hc : c < 16384) : ∃ k, k ≤ 8 ∧ 2 * c = 64 * 2 ^ k := by
  obtain ⟨k, h1, h2⟩ := h.2.2.2
  refine ⟨k + 1, ?_, by rw [Nat.pow_succ]; omega⟩
  have : k < 8 := by
    rcases Nat.lt_or_ge k 8 with g | g
    · exact g
    · exfalso
      have e : k = 8 := by omega
      subst e
      have e : (2 : Nat) ^ 8 = 256 := by decide
      omega
  omega
theorem tlp_0 {w n0 : Nat} {x y : Int} {s p o t c : Nat} (hS : ShS T s p o t c) (hnc : n0 < c) (hw4 : w < s ∨ s + 15 ≤ w) (hw3 : w < 291) : TlP T T I (sr (sr (sr (sr I p (un (I p) n0 x)) o (un (I o) n0 y)) t (cpyR (I w) 0 (I t) (4 * n0) 4)) (s + 7) (un (I (s + 7)) 0 ((n0 + 1 : Nat) : Int))) s p o t c p o t c n0 x y (I w) := by
  have hne := neS hS
  have e7 : (sr (sr (sr (sr I p (un (I p) n0 x)) o (un (I o) n0 y)) t (cpyR (I w) 0 (I t) (4 * n0) 4)) (s + 7) (un (I (s + 7)) 0 ((n0 + 1 : Nat) : Int))) (s + 7) = un (I (s + 7)) 0 ((n0 + 1 : Nat) : Int) := sr_row _ _ _
  have et : (sr (sr (sr (sr I p (un (I p) n0 x)) o (un (I o) n0 y)) t (cpyR (I w) 0 (I t) (4 * n0) 4)) (s + 7) (un (I (s + 7)) 0 ((n0 + 1 : Nat) : Int))) t = cpyR (I w) 0 (I t) (4 * n0) 4 := by rw [sr_ne (by omega), sr_row]
  have eo : (sr (sr (sr (sr I p (un (I p) n0 x)) o (un (I o) n0 y)) t (cpyR (I w) 0 (I t) (4 * n0) 4)) (s + 7) (un (I (s + 7)) 0 ((n0 + 1 : Nat) : Int))) o = un (I o) n0 y := by rw [sr_ne (by omega), sr_ne (by omega), sr_row]
  have ep : (sr (sr (sr (sr I p (un (I p) n0 x)) o (un (I o) n0 y)) t (cpyR (I w) 0 (I t) (4 * n0) 4)) (s + 7) (un (I (s + 7)) 0 ((n0 + 1 : Nat) : Int))) p = un (I p) n0 x := by rw [sr_ne (by omega), sr_ne (by omega), sr_ne (by omega), sr_row]
  refine ⟨hS, Ext.id _ _ _, ⟨Or.inl rfl, Or.inl rfl, Or.inl rfl⟩, fun b _ h7 hp ho ht => by rw [sr_ne h7, sr_ne ht, sr_ne ho, sr_ne hp], e7, ⟨fun k hk => ?_, fun k hk => ?_⟩, ?_, ?_, fun j hj => ?_, hnc⟩
  · rw [ep, eo, un_ne (by omega), un_ne (by omega)]; exact ⟨rfl, rfl⟩
  · rw [et, cpyR_out (by omega)]
  · rw [ep, un_at]
  · rw [eo, un_at]
  · rw [et, cpyR_in (by omega)]; congr 1; omega
theorem k_tell {w n0 : Nat} {x y : Int} {s p o t c : Nat} (hS : ShS T s p o t c) (hd : 2 ≤ d) (hn0 : I (s + 7) 0 = (n0 : Int)) (hnc : n0 ≤ c) (hn3 : n0 < 13608) (hw1 : kd T w = 23) (hw2 : ln T w = 4) (hw3 : w < 291) (hw4 : w < s ∨ s + 15 ≤ w) (hq : ∀ (U : Sh) (K : Mi) (p2 o2 t2 c2 : Nat), TlP T U I K s p o t c p2 o2 t2 c2 n0 x y (I w) → Q none U K) : EvE G mX4_tell d [aR (s + 7), aI x, aI y, aR w] T I Q := by
  have hne := neS hS
  have hcc := cap_le hS
  refine EvE.mk (lv0 := [some (aR (s + 7)), some (aI x), some (aI y), some (aR w)]) (Nat.le_of_ble_eq_true rfl) (by decide +kernel) rfl ?_
  refine r_aload_n (pc := 0) (i := 0) dX4_tell_0 rfl rfl ?_
  refine r_getfi (pc := 1) cks dX4_tell_1 fl_X4_9 rfl (kS7 hS) (ltS (k := 7) hS (by omega)) ?_
  refine r_top (b := ((n0 : Nat) : Int)) (hn0) ?_
  refine r_aload_n (pc := 4) (i := 0) dX4_tell_4 rfl rfl ?_
  refine r_getfr (pc := 5) (b := p) cks dX4_tell_5 fl_X4_15 rfl (kS7 hS) (ltS (k := 7) hS (by omega)) (rS7_1 hS) ?_
  refine r_alen (pc := 8) dX4_tell_8 (by rw [(kp_ hS)]; omega) (ltp hS) ?_
  refine r_top (b := ((c : Nat) : Int)) (by rw [lp_ hS] <;> rfl) ?_
  refine r_icmp_lt (pc := 9) (tgt := 65) dX4_tell_9 rfl (fun c9 => ?_) (fun c9 => ?_)
  · exact k_tell65 hS (by omega) hn0 (by omega) (cap_le hS) hw1 hw2 hw3 hw4 (hq _ _ _ _ _ _ (tlp_0 hS (by omega) hw4 hw3))
  · have hcn : n0 = c := by omega
    subst hcn
    have hn64 : 64 ≤ n0 := by obtain ⟨k, _, h2⟩ := hS.2.2.2; have := Nat.two_pow_pos k; omega
    have h291 : 291 ≤ nx T := hS.1.2.1
    have hp0 := ltp hS
    have ho0 := lto hS
    have ht0 := ltt hS
    have g0 := hS.g
    refine r_aload_n (pc := 12) (i := 0) dX4_tell_12 rfl rfl ?_
    refine r_aload_n (pc := 13) (i := 0) dX4_tell_13 rfl rfl ?_
    refine r_getfr (pc := 14) (b := p) cks dX4_tell_14 fl_X4_15 rfl g0.k7.1 g0.k7.2 g0.2.1.1 ?_
    refine r_iconst (pc := 17) dX4_tell_17 (in32_of rfl) ?_
    refine r_aload_n (pc := 18) (i := 0) dX4_tell_18 rfl rfl ?_
    refine r_getfi (pc := 19) cks dX4_tell_19 fl_X4_9 rfl g0.k7.1 g0.k7.2 ?_
    refine r_top (b := (n0 : Int)) (hn0) ?_
    refine r_imulN (pc := 22) (c := ((2 * n0 : Nat) : Int)) dX4_tell_22 (by unfold w32; omega) ?_
    refine r_callS1 (pc := 23) (d - 1) [aR p, aI ((2 * n0 : Nat) : Int)] dX4_tell_23 (CS.mk2 mk_J7_copyOf_59c91 lk_X4_32) rfl rfl (by omega) (Nat.le_of_ble_eq_true rfl) (Nat.le_of_ble_eq_true rfl) (k_copyOfI (x := p) (n := 2 * n0) (lx := n0) (by omega) g0.2.1.2.2.2.1 g0.2.2.1 g0.2.1.2.2.2.2.2.2.1 (by omega) (by omega) ?_)
    refine ⟨_, rfl, fun _ => ?_⟩
    have q1 := g0.nw 20 (2 * n0) (2 * n0)
    have z1 := (nw_kd (T := T) (k := 20) (n := 2 * n0) (m := 2 * n0) (b := nx T)).1 rfl
    refine r_putfr (pc := 26) cks dX4_tell_26 fl_X4_15 (pf_4_1 _ _) rfl q1.k7.1 q1.k7.2 ?_
    have g1 := q1.p z1.1 (show nx T < nx (nwT T 20 (2 * n0) (2 * n0)) from Nat.lt_succ_self _)
    rw [z1.2] at g1
    refine (?_ : Ev G mX4_tell d 29 [some (aR (s + 7)), some (aI x), some (aI y), some (aR w)] [] (rsT (nwT T 20 (2 * n0) (2 * n0)) (s + 7) 1 (nx T)) (sr I (nx T) (cpyR (I p) 0 (fun _ => 0) 0 (n0))) Q)
    refine r_aload_n (pc := 29) (i := 0) dX4_tell_29 rfl rfl ?_
    refine r_aload_n (pc := 30) (i := 0) dX4_tell_30 rfl rfl ?_
    refine r_getfr (pc := 31) (b := o) cks dX4_tell_31 fl_X4_19 rfl g1.k7.1 g1.k7.2 g1.2.1.2.1 ?_
    refine r_iconst (pc := 34) dX4_tell_34 (in32_of rfl) ?_
    refine r_aload_n (pc := 35) (i := 0) dX4_tell_35 rfl rfl ?_
    refine r_getfi (pc := 36) cks dX4_tell_36 fl_X4_9 rfl g1.k7.1 g1.k7.2 ?_
    refine r_top (b := (n0 : Int)) ((congrFun (by rw [sr_ne (by omega)]) 0).trans hn0) ?_
    refine r_imulN (pc := 39) (c := ((2 * n0 : Nat) : Int)) dX4_tell_39 (by unfold w32; omega) ?_
    refine r_callS1 (pc := 40) (d - 1) [aR o, aI ((2 * n0 : Nat) : Int)] dX4_tell_40 (CS.mk2 mk_J7_copyOf_59c91 lk_X4_32) rfl rfl (by omega) (Nat.le_of_ble_eq_true rfl) (Nat.le_of_ble_eq_true rfl) (k_copyOfI (x := o) (n := 2 * n0) (lx := n0) (by omega) g1.2.1.2.2.2.2.1 g1.2.2.2.1 g1.2.1.2.2.2.2.2.2.2.1 (by omega) (by omega) ?_)
    refine ⟨_, rfl, fun _ => ?_⟩
    have q2 := g1.nw 20 (2 * n0) (2 * n0)
    have z2 := (nw_kd (T := (rsT (nwT T 20 (2 * n0) (2 * n0)) (s + 7) 1 (nx T))) (k := 20) (n := 2 * n0) (m := 2 * n0) (b := nx (rsT (nwT T 20 (2 * n0) (2 * n0)) (s + 7) 1 (nx T)))).1 rfl
    refine r_putfr (pc := 43) cks dX4_tell_43 fl_X4_19 (pf_4_2 _ _) rfl q2.k7.1 q2.k7.2 ?_
    have g2 := q2.o z2.1 (show nx (rsT (nwT T 20 (2 * n0) (2 * n0)) (s + 7) 1 (nx T)) < nx (nwT (rsT (nwT T 20 (2 * n0) (2 * n0)) (s + 7) 1 (nx T)) 20 (2 * n0) (2 * n0)) from Nat.lt_succ_self _)
    rw [z2.2] at g2
    refine (?_ : Ev G mX4_tell d 46 [some (aR (s + 7)), some (aI x), some (aI y), some (aR w)] [] (rsT (nwT (rsT (nwT T 20 (2 * n0) (2 * n0)) (s + 7) 1 (nx T)) 20 (2 * n0) (2 * n0)) (s + 7) 2 (nx (rsT (nwT T 20 (2 * n0) (2 * n0)) (s + 7) 1 (nx T)))) (sr (sr I (nx T) (cpyR (I p) 0 (fun _ => 0) 0 (n0))) (nx T + 1) (cpyR ((sr I (nx T) (cpyR (I p) 0 (fun _ => 0) 0 (n0))) o) 0 (fun _ => 0) 0 (n0))) Q)
    refine r_aload_n (pc := 46) (i := 0) dX4_tell_46 rfl rfl ?_
    refine r_aload_n (pc := 47) (i := 0) dX4_tell_47 rfl rfl ?_
    refine r_getfr (pc := 48) (b := t) cks dX4_tell_48 fl_X4_22 rfl g2.k7.1 g2.k7.2 g2.2.1.2.2.1 ?_
    refine r_iconst (pc := 51) dX4_tell_51 (in32_of rfl) ?_
    refine r_aload_n (pc := 52) (i := 0) dX4_tell_52 rfl rfl ?_
    refine r_getfi (pc := 53) cks dX4_tell_53 fl_X4_9 rfl g2.k7.1 g2.k7.2 ?_
    refine r_top (b := (n0 : Int)) ((congrFun (by rw [sr_ne (by omega), sr_ne (by omega)]) 0).trans hn0) ?_
    refine r_imulN (pc := 56) (c := ((2 * n0 : Nat) : Int)) dX4_tell_56 (by unfold w32; omega) ?_
    refine r_iconst (pc := 57) dX4_tell_57 (in32_of rfl) ?_
    refine r_imulN (pc := 58) (c := ((8 * n0 : Nat) : Int)) dX4_tell_58 (by unfold w32; omega) ?_
    refine r_callS1 (pc := 59) (d - 1) [aR t, aI ((8 * n0 : Nat) : Int)] dX4_tell_59 (CS.mk2 mk_J7_copyOf_c38d5 lk_X4_38) rfl rfl (by omega) (Nat.le_of_ble_eq_true rfl) (Nat.le_of_ble_eq_true rfl) (k_copyOfL (x := t) (n := 8 * n0) (lx := 4 * n0) (by omega) g2.2.1.2.2.2.2.2.1 g2.2.2.2.2 g2.2.1.2.2.2.2.2.2.2.2 (by omega) (by omega) ?_)
    refine ⟨_, rfl, fun _ => ?_⟩
    have q3 := g2.nw 23 (8 * n0) (8 * n0)
    have z3 := (nw_kd (T := (rsT (nwT (rsT (nwT T 20 (2 * n0) (2 * n0)) (s + 7) 1 (nx T)) 20 (2 * n0) (2 * n0)) (s + 7) 2 (nx (rsT (nwT T 20 (2 * n0) (2 * n0)) (s + 7) 1 (nx T))))) (k := 23) (n := 8 * n0) (m := 8 * n0) (b := nx (rsT (nwT (rsT (nwT T 20 (2 * n0) (2 * n0)) (s + 7) 1 (nx T)) 20 (2 * n0) (2 * n0)) (s + 7) 2 (nx (rsT (nwT T 20 (2 * n0) (2 * n0)) (s + 7) 1 (nx T)))))).1 rfl
    refine r_putfr (pc := 62) cks dX4_tell_62 fl_X4_22 (pf_4_3 _ _) rfl q3.k7.1 q3.k7.2 ?_
    have g3 := q3.t z3.1 (show nx (rsT (nwT (rsT (nwT T 20 (2 * n0) (2 * n0)) (s + 7) 1 (nx T)) 20 (2 * n0) (2 * n0)) (s + 7) 2 (nx (rsT (nwT T 20 (2 * n0) (2 * n0)) (s + 7) 1 (nx T)))) < nx (nwT (rsT (nwT (rsT (nwT T 20 (2 * n0) (2 * n0)) (s + 7) 1 (nx T)) 20 (2 * n0) (2 * n0)) (s + 7) 2 (nx (rsT (nwT T 20 (2 * n0) (2 * n0)) (s + 7) 1 (nx T)))) 23 (8 * n0) (8 * n0)) from Nat.lt_succ_self _)
    rw [z3.2] at g3
    refine (?_ : Ev G mX4_tell d 65 [some (aR (s + 7)), some (aI x), some (aI y), some (aR w)] [] (rsT (nwT (rsT (nwT (rsT (nwT T 20 (2 * n0) (2 * n0)) (s + 7) 1 (nx T)) 20 (2 * n0) (2 * n0)) (s + 7) 2 (nx (rsT (nwT T 20 (2 * n0) (2 * n0)) (s + 7) 1 (nx T)))) 23 (8 * n0) (8 * n0)) (s + 7) 3 (nx (rsT (nwT (rsT (nwT T 20 (2 * n0) (2 * n0)) (s + 7) 1 (nx T)) 20 (2 * n0) (2 * n0)) (s + 7) 2 (nx (rsT (nwT T 20 (2 * n0) (2 * n0)) (s + 7) 1 (nx T)))))) (sr (sr (sr I (nx T) (cpyR (I p) 0 (fun _ => 0) 0 (n0))) (nx T + 1) (cpyR ((sr I (nx T) (cpyR (I p) 0 (fun _ => 0) 0 (n0))) o) 0 (fun _ => 0) 0 (n0))) (nx T + 1 + 1) (cpyR ((sr (sr I (nx T) (cpyR (I p) 0 (fun _ => 0) 0 (n0))) (nx T + 1) (cpyR ((sr I (nx T) (cpyR (I p) 0 (fun _ => 0) 0 (n0))) o) 0 (fun _ => 0) 0 (n0))) t) 0 (fun _ => 0) 0 (4 * n0))) Q)
    have hF : ShS (rsT (nwT (rsT (nwT (rsT (nwT T 20 (2 * n0) (2 * n0)) (s + 7) 1 (nx T)) 20 (2 * n0) (2 * n0)) (s + 7) 2 (nx (rsT (nwT T 20 (2 * n0) (2 * n0)) (s + 7) 1 (nx T)))) 23 (8 * n0) (8 * n0)) (s + 7) 3 (nx (rsT (nwT (rsT (nwT T 20 (2 * n0) (2 * n0)) (s + 7) 1 (nx T)) 20 (2 * n0) (2 * n0)) (s + 7) 2 (nx (rsT (nwT T 20 (2 * n0) (2 * n0)) (s + 7) 1 (nx T)))))) s (nx T) (nx T + 1) (nx T + 1 + 1) (2 * n0) := ShG.s (by rw [show 4 * (2 * n0) = 8 * n0 by omega]; exact g3) (Or.inr h291) (Or.inr (by omega)) (Or.inr (by omega)) (by omega) (by omega) (by omega) (cap_2 hS (by omega))
    have hwk : kd (rsT (nwT (rsT (nwT (rsT (nwT T 20 (2 * n0) (2 * n0)) (s + 7) 1 (nx T)) 20 (2 * n0) (2 * n0)) (s + 7) 2 (nx (rsT (nwT T 20 (2 * n0) (2 * n0)) (s + 7) 1 (nx T)))) 23 (8 * n0) (8 * n0)) (s + 7) 3 (nx (rsT (nwT (rsT (nwT T 20 (2 * n0) (2 * n0)) (s + 7) 1 (nx T)) 20 (2 * n0) (2 * n0)) (s + 7) 2 (nx (rsT (nwT T 20 (2 * n0) (2 * n0)) (s + 7) 1 (nx T)))))) w = 23 ∧ ln (rsT (nwT (rsT (nwT (rsT (nwT T 20 (2 * n0) (2 * n0)) (s + 7) 1 (nx T)) 20 (2 * n0) (2 * n0)) (s + 7) 2 (nx (rsT (nwT T 20 (2 * n0) (2 * n0)) (s + 7) 1 (nx T)))) 23 (8 * n0) (8 * n0)) (s + 7) 3 (nx (rsT (nwT (rsT (nwT T 20 (2 * n0) (2 * n0)) (s + 7) 1 (nx T)) 20 (2 * n0) (2 * n0)) (s + 7) 2 (nx (rsT (nwT T 20 (2 * n0) (2 * n0)) (s + 7) 1 (nx T)))))) w = 4 := by
      have w1 := nw_kdn (T := T) (k := 20) (n := 2 * n0) (m := 2 * n0) (b := w) (by omega)
      have w2 := nw_kdn (T := rsT (nwT T 20 (2 * n0) (2 * n0)) (s + 7) 1 (nx T)) (k := 20) (n := 2 * n0) (m := 2 * n0) (b := w) (show w < nx T + 1 by omega)
      have w3 := nw_kdn (T := rsT (nwT (rsT (nwT T 20 (2 * n0) (2 * n0)) (s + 7) 1 (nx T)) 20 (2 * n0) (2 * n0)) (s + 7) 2 (nx (rsT (nwT T 20 (2 * n0) (2 * n0)) (s + 7) 1 (nx T)))) (k := 23) (n := 8 * n0) (m := 8 * n0) (b := w) (show w < nx T + 1 + 1 by omega)
      exact ⟨w3.1.trans (w2.1.trans (w1.1.trans hw1)), w3.2.trans (w2.2.trans (w1.2.trans hw2))⟩
    have hI7 : (sr (sr (sr I (nx T) (cpyR (I p) 0 (fun _ => 0) 0 (n0))) (nx T + 1) (cpyR ((sr I (nx T) (cpyR (I p) 0 (fun _ => 0) 0 (n0))) o) 0 (fun _ => 0) 0 (n0))) (nx T + 1 + 1) (cpyR ((sr (sr I (nx T) (cpyR (I p) 0 (fun _ => 0) 0 (n0))) (nx T + 1) (cpyR ((sr I (nx T) (cpyR (I p) 0 (fun _ => 0) 0 (n0))) o) 0 (fun _ => 0) 0 (n0))) t) 0 (fun _ => 0) 0 (4 * n0))) (s + 7) = I (s + 7) := by rw [sr_ne (by omega), sr_ne (by omega), sr_ne (by omega)]
    have hIw : (sr (sr (sr I (nx T) (cpyR (I p) 0 (fun _ => 0) 0 (n0))) (nx T + 1) (cpyR ((sr I (nx T) (cpyR (I p) 0 (fun _ => 0) 0 (n0))) o) 0 (fun _ => 0) 0 (n0))) (nx T + 1 + 1) (cpyR ((sr (sr I (nx T) (cpyR (I p) 0 (fun _ => 0) 0 (n0))) (nx T + 1) (cpyR ((sr I (nx T) (cpyR (I p) 0 (fun _ => 0) 0 (n0))) o) 0 (fun _ => 0) 0 (n0))) t) 0 (fun _ => 0) 0 (4 * n0))) w = I w := by rw [sr_ne (by omega), sr_ne (by omega), sr_ne (by omega)]
    have hX : Ext s T (rsT (nwT (rsT (nwT (rsT (nwT T 20 (2 * n0) (2 * n0)) (s + 7) 1 (nx T)) 20 (2 * n0) (2 * n0)) (s + 7) 2 (nx (rsT (nwT T 20 (2 * n0) (2 * n0)) (s + 7) 1 (nx T)))) 23 (8 * n0) (8 * n0)) (s + 7) 3 (nx (rsT (nwT (rsT (nwT T 20 (2 * n0) (2 * n0)) (s + 7) 1 (nx T)) 20 (2 * n0) (2 * n0)) (s + 7) 2 (nx (rsT (nwT T 20 (2 * n0) (2 * n0)) (s + 7) 1 (nx T)))))) n0 (2 * n0) := by
      refine ⟨show nx T ≤ nx T + 1 + 1 + 1 by omega, fun b hb => ?_, fun b k hb hk => ?_, by omega, show sl T + 2 * n0 + 2 * n0 + 8 * n0 + 12 * n0 ≤ sl T + 12 * (2 * n0) by omega, show 64 * (nx T + 1 + 1 + 1) + 3 * n0 ≤ 64 * nx T + 3 * (2 * n0) by omega⟩
      · have w1 := nw_kdn (T := T) (k := 20) (n := 2 * n0) (m := 2 * n0) (b := b) hb
        have w2 := nw_kdn (T := rsT (nwT T 20 (2 * n0) (2 * n0)) (s + 7) 1 (nx T)) (k := 20) (n := 2 * n0) (m := 2 * n0) (b := b) (show b < nx T + 1 by omega)
        have w3 := nw_kdn (T := rsT (nwT (rsT (nwT T 20 (2 * n0) (2 * n0)) (s + 7) 1 (nx T)) 20 (2 * n0) (2 * n0)) (s + 7) 2 (nx (rsT (nwT T 20 (2 * n0) (2 * n0)) (s + 7) 1 (nx T)))) (k := 23) (n := 8 * n0) (m := 8 * n0) (b := b) (show b < nx T + 1 + 1 by omega)
        exact ⟨w3.1.trans (w2.1.trans w1.1), w3.2.trans (w2.2.trans w1.2)⟩
      · rw [rs_ne (by omega), nw_rf (show b < nx T + 1 + 1 by omega), rs_ne (by omega), nw_rf (show b < nx T + 1 by omega), rs_ne (by omega), nw_rf hb]
    refine k_tell65 (w := w) (n0 := n0) hF (by omega) ((congrFun hI7 0).trans hn0) (by omega) (cap_le hF) hwk.1 hwk.2 hw3 hw4 ?_
    have hT := tlp_0 (I := sr (sr (sr I (nx T) (cpyR (I p) 0 (fun _ => 0) 0 (n0))) (nx T + 1) (cpyR ((sr I (nx T) (cpyR (I p) 0 (fun _ => 0) 0 (n0))) o) 0 (fun _ => 0) 0 (n0))) (nx T + 1 + 1) (cpyR ((sr (sr I (nx T) (cpyR (I p) 0 (fun _ => 0) 0 (n0))) (nx T + 1) (cpyR ((sr I (nx T) (cpyR (I p) 0 (fun _ => 0) 0 (n0))) o) 0 (fun _ => 0) 0 (n0))) t) 0 (fun _ => 0) 0 (4 * n0))) (w := w) (n0 := n0) (x := x) (y := y) hF (by omega) hw4 hw3
    obtain ⟨t1, t2, t3, t4, t5, t6, t7, t8, t9, t10⟩ := hT
    refine hq _ _ _ _ _ _ ⟨t1, hX.tr t2, ⟨Or.inr (Nat.le_refl _), Or.inr (by omega), Or.inr (by omega)⟩, fun b hb h7 hp ho ht => ?_, t5.trans (by rw [hI7]), ⟨fun k hk => ?_, fun k hk => ?_⟩, t7, t8, fun j hj => (t9 j hj).trans (congrFun hIw j), t10⟩
    · rw [t4 b (show b < nx T + 1 + 1 + 1 by omega) h7 (by omega) (by omega) (by omega), sr_ne (by omega), sr_ne (by omega), sr_ne (by omega)]
    · have e := t6.1 k hk
      rw [e.1, e.2]
      constructor
      · rw [sr_ne (by omega), sr_ne (by omega), sr_row, cpyR_in (by omega)]; congr 1; omega
      · rw [sr_ne (by omega), sr_row, cpyR_in (by omega), sr_ne (by omega)]; congr 1; omega
    · rw [t6.2 k hk, sr_row, cpyR_in (by omega), sr_ne (by omega), sr_ne (by omega)]; congr 1; omega
end C11
