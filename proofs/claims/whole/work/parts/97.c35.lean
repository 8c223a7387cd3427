section C35
variable {G : Gl} {d : Nat} {T : Sh} {I : Mi} {N : Nat → Int} {Q : Option AV → Sh → Mi → Prop}
theorem k_finFrom {l : Nat} {s p o t c : Nat} (hS : ShS T s p o t c) {s2 p2 o2 t2 c2 : Nat} (hS2 : ShS T s2 p2 o2 t2 c2) (hd : 1 ≤ d) (hdj : s + 15 ≤ s2 ∨ s2 + 15 ≤ s) (hl : I (s2 + 11) 0 = (l : Int)) (hl2 : l ≤ 256) (hq0 : l = 0 → Q none T (sr I (s + 11) (un (un (un (un (I (s + 11)) 0 (l : Int)) 4 (I (s2 + 11) 4)) 5 (I (s2 + 11) 5)) 6 (I (s2 + 11) 6)))) (hq1 : 0 < l → Q none T (sr (sr (sr (sr I (s + 11) (un (un (un (un (I (s + 11)) 0 (l : Int)) 4 (I (s2 + 11) 4)) 5 (I (s2 + 11) 5)) 6 (I (s2 + 11) 6))) (s + 12) (cpyR (I (s2 + 12)) 0 (I (s + 12)) 0 512)) (s + 13) (cpyR (I (s2 + 13)) 0 (I (s + 13)) 0 l)) (s + 14) (cpyR (I (s2 + 14)) 0 (I (s + 14)) 0 l))) : EvE G mX1_takeFrom d [aR (s + 11), aR (s2 + 11)] T I Q := by
  refine EvE.mk (lv0 := [some (aR (s + 11)), some (aR (s2 + 11))]) (Nat.le_of_ble_eq_true rfl) (by decide +kernel) rfl ?_
  refine r_aload_n (pc := 0) (i := 0) dX1_takeFrom_0 rfl rfl ?_
  refine r_aload_n (pc := 1) (i := 1) dX1_takeFrom_1 rfl rfl ?_
  refine r_getfi (pc := 2) cks dX1_takeFrom_2 fl_X1_9 rfl (kS11 hS2) (ltS (k := 11) hS2 (by omega)) ?_
  refine r_top (b := (l : Int)) (hl) ?_
  refine r_putfi (pc := 5) cks dX1_takeFrom_5 fl_X1_9 (pf_1_0 _ _) rfl (kS11 hS) (ltS (k := 11) hS (by omega)) ?_
  refine r_mem (I2 := sr I (s + 11) (un (I (s + 11)) 0 ((l : Nat) : Int))) ((up2_row _ _ _ _).trans ((congrArg (fun fz_ => sr I (s + 11) (un fz_ 0 ((l : Nat) : Int))) (show I (s + 11) = I (s + 11) from rfl)).trans (rfl))) ?_
  refine r_aload_n (pc := 8) (i := 0) dX1_takeFrom_8 rfl rfl ?_
  refine r_aload_n (pc := 9) (i := 1) dX1_takeFrom_9 rfl rfl ?_
  refine r_getfi (pc := 10) cks dX1_takeFrom_10 fl_X1_25 rfl (kS11 hS2) (ltS (k := 11) hS2 (by omega)) ?_
  refine r_top (b := I (s2 + 11) 4) ((congrFun (sr_ne (by omega)) _).trans (rfl)) ?_
  refine r_putfi (pc := 13) cks dX1_takeFrom_13 fl_X1_25 (pf_1_4 _ _) rfl (kS11 hS) (ltS (k := 11) hS (by omega)) ?_
  refine r_mem (I2 := sr I (s + 11) (un (un (I (s + 11)) 0 ((l : Nat) : Int)) 4 (I (s2 + 11) 4))) ((up2_row _ _ _ _).trans ((congrArg (fun fz_ => sr (sr I (s + 11) (un (I (s + 11)) 0 ((l : Nat) : Int))) (s + 11) (un fz_ 4 (I (s2 + 11) 4))) (show (sr I (s + 11) (un (I (s + 11)) 0 ((l : Nat) : Int))) (s + 11) = un (I (s + 11)) 0 ((l : Nat) : Int) from sr_row _ _ _)).trans (sr_sr _ _ _ _))) ?_
  refine r_aload_n (pc := 16) (i := 0) dX1_takeFrom_16 rfl rfl ?_
  refine r_aload_n (pc := 17) (i := 1) dX1_takeFrom_17 rfl rfl ?_
  refine r_getfi (pc := 18) cks dX1_takeFrom_18 fl_X1_28 rfl (kS11 hS2) (ltS (k := 11) hS2 (by omega)) ?_
  refine r_top (b := I (s2 + 11) 5) ((congrFun (sr_ne (by omega)) _).trans (rfl)) ?_
  refine r_putfi (pc := 21) cks dX1_takeFrom_21 fl_X1_28 (pf_1_5 _ _) rfl (kS11 hS) (ltS (k := 11) hS (by omega)) ?_
  refine r_mem (I2 := sr I (s + 11) (un (un (un (I (s + 11)) 0 ((l : Nat) : Int)) 4 (I (s2 + 11) 4)) 5 (I (s2 + 11) 5))) ((up2_row _ _ _ _).trans ((congrArg (fun fz_ => sr (sr I (s + 11) (un (un (I (s + 11)) 0 ((l : Nat) : Int)) 4 (I (s2 + 11) 4))) (s + 11) (un fz_ 5 (I (s2 + 11) 5))) (show (sr I (s + 11) (un (un (I (s + 11)) 0 ((l : Nat) : Int)) 4 (I (s2 + 11) 4))) (s + 11) = un (un (I (s + 11)) 0 ((l : Nat) : Int)) 4 (I (s2 + 11) 4) from sr_row _ _ _)).trans (sr_sr _ _ _ _))) ?_
  refine r_aload_n (pc := 24) (i := 0) dX1_takeFrom_24 rfl rfl ?_
  refine r_aload_n (pc := 25) (i := 1) dX1_takeFrom_25 rfl rfl ?_
  refine r_getfi (pc := 26) cks dX1_takeFrom_26 fl_X1_31 rfl (kS11 hS2) (ltS (k := 11) hS2 (by omega)) ?_
  refine r_top (b := I (s2 + 11) 6) ((congrFun (sr_ne (by omega)) _).trans (rfl)) ?_
  refine r_putfi (pc := 29) cks dX1_takeFrom_29 fl_X1_31 (pf_1_6 _ _) rfl (kS11 hS) (ltS (k := 11) hS (by omega)) ?_
  refine r_mem (I2 := sr I (s + 11) (un (un (un (un (I (s + 11)) 0 ((l : Nat) : Int)) 4 (I (s2 + 11) 4)) 5 (I (s2 + 11) 5)) 6 (I (s2 + 11) 6))) ((up2_row _ _ _ _).trans ((congrArg (fun fz_ => sr (sr I (s + 11) (un (un (un (I (s + 11)) 0 ((l : Nat) : Int)) 4 (I (s2 + 11) 4)) 5 (I (s2 + 11) 5))) (s + 11) (un fz_ 6 (I (s2 + 11) 6))) (show (sr I (s + 11) (un (un (un (I (s + 11)) 0 ((l : Nat) : Int)) 4 (I (s2 + 11) 4)) 5 (I (s2 + 11) 5))) (s + 11) = un (un (un (I (s + 11)) 0 ((l : Nat) : Int)) 4 (I (s2 + 11) 4)) 5 (I (s2 + 11) 5) from sr_row _ _ _)).trans (sr_sr _ _ _ _))) ?_
  refine r_aload_n (pc := 32) (i := 0) dX1_takeFrom_32 rfl rfl ?_
  refine r_getfi (pc := 33) cks dX1_takeFrom_33 fl_X1_9 rfl (kS11 hS) (ltS (k := 11) hS (by omega)) ?_
  refine r_top (b := (un (un (un (un (I (s + 11)) 0 ((l : Nat) : Int)) 4 (I (s2 + 11) 4)) 5 (I (s2 + 11) 5)) 6 (I (s2 + 11) 6)) 0) (sr_at _ _ _ _) ?_
  refine r_top (b := (l : Int)) ((un_ne (by decide)).trans ((un_ne (by decide)).trans ((un_ne (by decide)).trans un_at))) ?_
  refine r_if_le (pc := 36) (tgt := 89) dX1_takeFrom_36 rfl (fun c36 => ?_) (fun c36 => ?_)
  · exact r_vret (pc := 89) dX1_takeFrom_89 trivial (hq0 (by omega))
  · refine r_aload_n (pc := 39) (i := 1) dX1_takeFrom_39 rfl rfl ?_
    refine r_getfr (pc := 40) (b := s2 + 12) cks dX1_takeFrom_40 fl_X1_15 rfl (kS11 hS2) (ltS (k := 11) hS2 (by omega)) (rS11_1 hS2) ?_
    refine r_iconst (pc := 43) dX1_takeFrom_43 (in32_of rfl) ?_
    refine r_aload_n (pc := 44) (i := 0) dX1_takeFrom_44 rfl rfl ?_
    refine r_getfr (pc := 45) (b := s + 12) cks dX1_takeFrom_45 fl_X1_15 rfl (kS11 hS) (ltS (k := 11) hS (by omega)) (rS11_1 hS) ?_
    refine r_iconst (pc := 48) dX1_takeFrom_48 (in32_of rfl) ?_
    refine r_sipush (pc := 49) dX1_takeFrom_49 rfl (in32_of rfl) ?_
    refine r_cpN (pc := 52) (a := s + 12) (a0 := s2 + 12) (0) (0) (512) dX1_takeFrom_52 (by omega) ac_X1_34 (Nat.le_of_ble_eq_true rfl) (Or.inl (kS12 hS)) ((kS12 hS2).trans (kS12 hS).symm) (ltS (k := 12) hS (by omega)) (ltS (k := 12) hS2 (by omega)) (by omega) (by omega) (by omega) (by rw [lS12 hS2]; omega) (by rw [lS12 hS]; omega) ?_
    refine r_mem (I2 := sr (sr I (s + 11) (un (un (un (un (I (s + 11)) 0 ((l : Nat) : Int)) 4 (I (s2 + 11) 4)) 5 (I (s2 + 11) 5)) 6 (I (s2 + 11) 6))) (s + 12) (cpyR (I (s2 + 12)) 0 (I (s + 12)) 0 512)) ((congr (congrArg (fun fz_ gz_ => sr (sr I (s + 11) (un (un (un (un (I (s + 11)) 0 ((l : Nat) : Int)) 4 (I (s2 + 11) 4)) 5 (I (s2 + 11) 5)) 6 (I (s2 + 11) 6))) (s + 12) (cpyR fz_ 0 gz_ 0 512)) (show (sr I (s + 11) (un (un (un (un (I (s + 11)) 0 ((l : Nat) : Int)) 4 (I (s2 + 11) 4)) 5 (I (s2 + 11) 5)) 6 (I (s2 + 11) 6))) (s2 + 12) = I (s2 + 12) from (sr_ne (by omega)).trans (rfl))) (show (sr I (s + 11) (un (un (un (un (I (s + 11)) 0 ((l : Nat) : Int)) 4 (I (s2 + 11) 4)) 5 (I (s2 + 11) 5)) 6 (I (s2 + 11) 6))) (s + 12) = I (s + 12) from (sr_ne (by omega)).trans (rfl))).trans (rfl)) ?_
    refine r_aload_n (pc := 55) (i := 1) dX1_takeFrom_55 rfl rfl ?_
    refine r_getfr (pc := 56) (b := s2 + 13) cks dX1_takeFrom_56 fl_X1_19 rfl (kS11 hS2) (ltS (k := 11) hS2 (by omega)) (rS11_2 hS2) ?_
    refine r_iconst (pc := 59) dX1_takeFrom_59 (in32_of rfl) ?_
    refine r_aload_n (pc := 60) (i := 0) dX1_takeFrom_60 rfl rfl ?_
    refine r_getfr (pc := 61) (b := s + 13) cks dX1_takeFrom_61 fl_X1_19 rfl (kS11 hS) (ltS (k := 11) hS (by omega)) (rS11_2 hS) ?_
    refine r_iconst (pc := 64) dX1_takeFrom_64 (in32_of rfl) ?_
    refine r_aload_n (pc := 65) (i := 0) dX1_takeFrom_65 rfl rfl ?_
    refine r_getfi (pc := 66) cks dX1_takeFrom_66 fl_X1_9 rfl (kS11 hS) (ltS (k := 11) hS (by omega)) ?_
    refine r_top (b := (un (un (un (un (I (s + 11)) 0 ((l : Nat) : Int)) 4 (I (s2 + 11) 4)) 5 (I (s2 + 11) 5)) 6 (I (s2 + 11) 6)) 0) ((congrFun (sr_ne (by omega)) _).trans (sr_at _ _ _ _)) ?_
    refine r_top (b := (l : Int)) ((un_ne (by decide)).trans ((un_ne (by decide)).trans ((un_ne (by decide)).trans un_at))) ?_
    refine r_cpN (pc := 69) (a := s + 13) (a0 := s2 + 13) (0) (0) (l) dX1_takeFrom_69 (by omega) ac_X1_34 (Nat.le_of_ble_eq_true rfl) (Or.inl (kS13 hS)) ((kS13 hS2).trans (kS13 hS).symm) (ltS (k := 13) hS (by omega)) (ltS (k := 13) hS2 (by omega)) (by omega) (by omega) (by omega) (by rw [lS13 hS2]; omega) (by rw [lS13 hS]; omega) ?_
    refine r_mem (I2 := sr (sr (sr I (s + 11) (un (un (un (un (I (s + 11)) 0 ((l : Nat) : Int)) 4 (I (s2 + 11) 4)) 5 (I (s2 + 11) 5)) 6 (I (s2 + 11) 6))) (s + 12) (cpyR (I (s2 + 12)) 0 (I (s + 12)) 0 512)) (s + 13) (cpyR (I (s2 + 13)) 0 (I (s + 13)) 0 l)) ((congr (congrArg (fun fz_ gz_ => sr (sr (sr I (s + 11) (un (un (un (un (I (s + 11)) 0 ((l : Nat) : Int)) 4 (I (s2 + 11) 4)) 5 (I (s2 + 11) 5)) 6 (I (s2 + 11) 6))) (s + 12) (cpyR (I (s2 + 12)) 0 (I (s + 12)) 0 512)) (s + 13) (cpyR fz_ 0 gz_ 0 l)) (show (sr (sr I (s + 11) (un (un (un (un (I (s + 11)) 0 ((l : Nat) : Int)) 4 (I (s2 + 11) 4)) 5 (I (s2 + 11) 5)) 6 (I (s2 + 11) 6))) (s + 12) (cpyR (I (s2 + 12)) 0 (I (s + 12)) 0 512)) (s2 + 13) = I (s2 + 13) from (sr_ne (by omega)).trans ((sr_ne (by omega)).trans (rfl)))) (show (sr (sr I (s + 11) (un (un (un (un (I (s + 11)) 0 ((l : Nat) : Int)) 4 (I (s2 + 11) 4)) 5 (I (s2 + 11) 5)) 6 (I (s2 + 11) 6))) (s + 12) (cpyR (I (s2 + 12)) 0 (I (s + 12)) 0 512)) (s + 13) = I (s + 13) from (sr_ne (by omega)).trans ((sr_ne (by omega)).trans (rfl)))).trans (rfl)) ?_
    refine r_aload_n (pc := 72) (i := 1) dX1_takeFrom_72 rfl rfl ?_
    refine r_getfr (pc := 73) (b := s2 + 14) cks dX1_takeFrom_73 fl_X1_22 rfl (kS11 hS2) (ltS (k := 11) hS2 (by omega)) (rS11_3 hS2) ?_
    refine r_iconst (pc := 76) dX1_takeFrom_76 (in32_of rfl) ?_
    refine r_aload_n (pc := 77) (i := 0) dX1_takeFrom_77 rfl rfl ?_
    refine r_getfr (pc := 78) (b := s + 14) cks dX1_takeFrom_78 fl_X1_22 rfl (kS11 hS) (ltS (k := 11) hS (by omega)) (rS11_3 hS) ?_
    refine r_iconst (pc := 81) dX1_takeFrom_81 (in32_of rfl) ?_
    refine r_aload_n (pc := 82) (i := 0) dX1_takeFrom_82 rfl rfl ?_
    refine r_getfi (pc := 83) cks dX1_takeFrom_83 fl_X1_9 rfl (kS11 hS) (ltS (k := 11) hS (by omega)) ?_
    refine r_top (b := (un (un (un (un (I (s + 11)) 0 ((l : Nat) : Int)) 4 (I (s2 + 11) 4)) 5 (I (s2 + 11) 5)) 6 (I (s2 + 11) 6)) 0) ((congrFun (sr_ne (by omega)) _).trans ((congrFun (sr_ne (by omega)) _).trans (sr_at _ _ _ _))) ?_
    refine r_top (b := (l : Int)) ((un_ne (by decide)).trans ((un_ne (by decide)).trans ((un_ne (by decide)).trans un_at))) ?_
    refine r_cpN (pc := 86) (a := s + 14) (a0 := s2 + 14) (0) (0) (l) dX1_takeFrom_86 (by omega) ac_X1_34 (Nat.le_of_ble_eq_true rfl) (Or.inl (kS14 hS)) ((kS14 hS2).trans (kS14 hS).symm) (ltS (k := 14) hS (by omega)) (ltS (k := 14) hS2 (by omega)) (by omega) (by omega) (by omega) (by rw [lS14 hS2]; omega) (by rw [lS14 hS]; omega) ?_
    refine r_mem (I2 := sr (sr (sr (sr I (s + 11) (un (un (un (un (I (s + 11)) 0 ((l : Nat) : Int)) 4 (I (s2 + 11) 4)) 5 (I (s2 + 11) 5)) 6 (I (s2 + 11) 6))) (s + 12) (cpyR (I (s2 + 12)) 0 (I (s + 12)) 0 512)) (s + 13) (cpyR (I (s2 + 13)) 0 (I (s + 13)) 0 l)) (s + 14) (cpyR (I (s2 + 14)) 0 (I (s + 14)) 0 l)) ((congr (congrArg (fun fz_ gz_ => sr (sr (sr (sr I (s + 11) (un (un (un (un (I (s + 11)) 0 ((l : Nat) : Int)) 4 (I (s2 + 11) 4)) 5 (I (s2 + 11) 5)) 6 (I (s2 + 11) 6))) (s + 12) (cpyR (I (s2 + 12)) 0 (I (s + 12)) 0 512)) (s + 13) (cpyR (I (s2 + 13)) 0 (I (s + 13)) 0 l)) (s + 14) (cpyR fz_ 0 gz_ 0 l)) (show (sr (sr (sr I (s + 11) (un (un (un (un (I (s + 11)) 0 ((l : Nat) : Int)) 4 (I (s2 + 11) 4)) 5 (I (s2 + 11) 5)) 6 (I (s2 + 11) 6))) (s + 12) (cpyR (I (s2 + 12)) 0 (I (s + 12)) 0 512)) (s + 13) (cpyR (I (s2 + 13)) 0 (I (s + 13)) 0 l)) (s2 + 14) = I (s2 + 14) from (sr_ne (by omega)).trans ((sr_ne (by omega)).trans ((sr_ne (by omega)).trans (rfl))))) (show (sr (sr (sr I (s + 11) (un (un (un (un (I (s + 11)) 0 ((l : Nat) : Int)) 4 (I (s2 + 11) 4)) 5 (I (s2 + 11) 5)) 6 (I (s2 + 11) 6))) (s + 12) (cpyR (I (s2 + 12)) 0 (I (s + 12)) 0 512)) (s + 13) (cpyR (I (s2 + 13)) 0 (I (s + 13)) 0 l)) (s + 14) = I (s + 14) from (sr_ne (by omega)).trans ((sr_ne (by omega)).trans ((sr_ne (by omega)).trans (rfl))))).trans (rfl)) ?_
    exact r_vret (pc := 89) dX1_takeFrom_89 trivial (hq1 (by omega))
theorem k_led47 {n0 : Nat} {s p o t c : Nat} {cs : Nat} (hS : ShG T s p o t cs cs (4 * cs)) (hpo : p ≠ o) (hpt : p ≠ t) (hot : o ≠ t) (hsp : p ≠ s + 7) (hso : o ≠ s + 7) (hst : t ≠ s + 7) {s2 p2 o2 t2 c2 : Nat} (hS2 : ShG T s2 p2 o2 t2 c2 c2 (4 * c2)) (hd : 1 ≤ d) (hss : s2 ≠ s) (hx : (p2 ≠ p ∧ p2 ≠ o ∧ p2 ≠ t) ∧ (o2 ≠ p ∧ o2 ≠ o ∧ o2 ≠ t) ∧ (t2 ≠ p ∧ t2 ≠ o ∧ t2 ≠ t)) (hy : p2 ≠ s + 7 ∧ o2 ≠ s + 7 ∧ t2 ≠ s + 7) (hn0 : I (s2 + 7) 0 = (n0 : Int)) (hnc : n0 ≤ c2) (hnc2 : n0 ≤ cs) (hc : c2 ≤ 16384) (hq : Q none T (sr (sr (sr (sr I (s + 7) (un (I (s + 7)) 0 (n0 : Int))) p (cpyR (I p2) 0 (I p) 0 n0)) o (cpyR (I o2) 0 (I o) 0 n0)) t (cpyR (I t2) 0 (I t) 0 (4 * n0)))) : Ev G mX4_takeFrom d 47 [some (aR (s + 7)), some (aR (s2 + 7))] [] T I Q := by
  refine r_aload_n (pc := 47) (i := 0) dX4_takeFrom_47 rfl rfl ?_
  refine r_aload_n (pc := 48) (i := 1) dX4_takeFrom_48 rfl rfl ?_
  refine r_getfi (pc := 49) cks dX4_takeFrom_49 fl_X4_9 rfl hS2.k7.1 hS2.k7.2 ?_
  refine r_top (b := (n0 : Int)) (hn0) ?_
  refine r_putfi (pc := 52) cks dX4_takeFrom_52 fl_X4_9 (pf_4_0 _ _) rfl hS.k7.1 hS.k7.2 ?_
  refine r_mem (I2 := sr I (s + 7) (un (I (s + 7)) 0 ((n0 : Nat) : Int))) ((up2_row _ _ _ _).trans ((congrArg (fun fz_ => sr I (s + 7) (un fz_ 0 ((n0 : Nat) : Int))) (show I (s + 7) = I (s + 7) from rfl)).trans (rfl))) ?_
  refine r_aload_n (pc := 55) (i := 1) dX4_takeFrom_55 rfl rfl ?_
  refine r_getfr (pc := 56) (b := p2) cks dX4_takeFrom_56 fl_X4_15 rfl hS2.k7.1 hS2.k7.2 hS2.2.1.1 ?_
  refine r_iconst (pc := 59) dX4_takeFrom_59 (in32_of rfl) ?_
  refine r_aload_n (pc := 60) (i := 0) dX4_takeFrom_60 rfl rfl ?_
  refine r_getfr (pc := 61) (b := p) cks dX4_takeFrom_61 fl_X4_15 rfl hS.k7.1 hS.k7.2 hS.2.1.1 ?_
  refine r_iconst (pc := 64) dX4_takeFrom_64 (in32_of rfl) ?_
  refine r_aload_n (pc := 65) (i := 0) dX4_takeFrom_65 rfl rfl ?_
  refine r_getfi (pc := 66) cks dX4_takeFrom_66 fl_X4_9 rfl hS.k7.1 hS.k7.2 ?_
  refine r_top (b := (un (I (s + 7)) 0 ((n0 : Nat) : Int)) 0) (sr_at _ _ _ _) ?_
  refine r_top (b := (n0 : Int)) (un_at) ?_
  refine r_cpN (pc := 69) (a := p) (a0 := p2) (0) (0) (n0) dX4_takeFrom_69 (by omega) ac_X4_26 (Nat.le_of_ble_eq_true rfl) (Or.inl hS.2.1.2.2.2.1) (hS2.2.1.2.2.2.1.trans hS.2.1.2.2.2.1.symm) hS.2.2.1 hS2.2.2.1 (by omega) (by omega) (by omega) (by rw [hS2.2.1.2.2.2.2.2.2.1]; omega) (by rw [hS.2.1.2.2.2.2.2.2.1]; omega) ?_
  refine r_mem (I2 := sr (sr I (s + 7) (un (I (s + 7)) 0 ((n0 : Nat) : Int))) p (cpyR (I p2) 0 (I p) 0 n0)) ((congr (congrArg (fun fz_ gz_ => sr (sr I (s + 7) (un (I (s + 7)) 0 ((n0 : Nat) : Int))) p (cpyR fz_ 0 gz_ 0 n0)) (show (sr I (s + 7) (un (I (s + 7)) 0 ((n0 : Nat) : Int))) p2 = I p2 from (sr_ne (hy.1)).trans (rfl))) (show (sr I (s + 7) (un (I (s + 7)) 0 ((n0 : Nat) : Int))) p = I p from (sr_ne (by omega)).trans (rfl))).trans (rfl)) ?_
  refine r_aload_n (pc := 72) (i := 1) dX4_takeFrom_72 rfl rfl ?_
  refine r_getfr (pc := 73) (b := o2) cks dX4_takeFrom_73 fl_X4_19 rfl hS2.k7.1 hS2.k7.2 hS2.2.1.2.1 ?_
  refine r_iconst (pc := 76) dX4_takeFrom_76 (in32_of rfl) ?_
  refine r_aload_n (pc := 77) (i := 0) dX4_takeFrom_77 rfl rfl ?_
  refine r_getfr (pc := 78) (b := o) cks dX4_takeFrom_78 fl_X4_19 rfl hS.k7.1 hS.k7.2 hS.2.1.2.1 ?_
  refine r_iconst (pc := 81) dX4_takeFrom_81 (in32_of rfl) ?_
  refine r_aload_n (pc := 82) (i := 0) dX4_takeFrom_82 rfl rfl ?_
  refine r_getfi (pc := 83) cks dX4_takeFrom_83 fl_X4_9 rfl hS.k7.1 hS.k7.2 ?_
  refine r_top (b := (un (I (s + 7)) 0 ((n0 : Nat) : Int)) 0) ((congrFun (sr_ne (by omega)) _).trans (sr_at _ _ _ _)) ?_
  refine r_top (b := (n0 : Int)) (un_at) ?_
  refine r_cpN (pc := 86) (a := o) (a0 := o2) (0) (0) (n0) dX4_takeFrom_86 (by omega) ac_X4_26 (Nat.le_of_ble_eq_true rfl) (Or.inl hS.2.1.2.2.2.2.1) (hS2.2.1.2.2.2.2.1.trans hS.2.1.2.2.2.2.1.symm) hS.2.2.2.1 hS2.2.2.2.1 (by omega) (by omega) (by omega) (by rw [hS2.2.1.2.2.2.2.2.2.2.1]; omega) (by rw [hS.2.1.2.2.2.2.2.2.2.1]; omega) ?_
  refine r_mem (I2 := sr (sr (sr I (s + 7) (un (I (s + 7)) 0 ((n0 : Nat) : Int))) p (cpyR (I p2) 0 (I p) 0 n0)) o (cpyR (I o2) 0 (I o) 0 n0)) ((congr (congrArg (fun fz_ gz_ => sr (sr (sr I (s + 7) (un (I (s + 7)) 0 ((n0 : Nat) : Int))) p (cpyR (I p2) 0 (I p) 0 n0)) o (cpyR fz_ 0 gz_ 0 n0)) (show (sr (sr I (s + 7) (un (I (s + 7)) 0 ((n0 : Nat) : Int))) p (cpyR (I p2) 0 (I p) 0 n0)) o2 = I o2 from (sr_ne (hx.2.1.1)).trans ((sr_ne (hy.2.1)).trans (rfl)))) (show (sr (sr I (s + 7) (un (I (s + 7)) 0 ((n0 : Nat) : Int))) p (cpyR (I p2) 0 (I p) 0 n0)) o = I o from (sr_ne (by omega)).trans ((sr_ne (by omega)).trans (rfl)))).trans (rfl)) ?_
  refine r_aload_n (pc := 89) (i := 1) dX4_takeFrom_89 rfl rfl ?_
  refine r_getfr (pc := 90) (b := t2) cks dX4_takeFrom_90 fl_X4_22 rfl hS2.k7.1 hS2.k7.2 hS2.2.1.2.2.1 ?_
  refine r_iconst (pc := 93) dX4_takeFrom_93 (in32_of rfl) ?_
  refine r_aload_n (pc := 94) (i := 0) dX4_takeFrom_94 rfl rfl ?_
  refine r_getfr (pc := 95) (b := t) cks dX4_takeFrom_95 fl_X4_22 rfl hS.k7.1 hS.k7.2 hS.2.1.2.2.1 ?_
  refine r_iconst (pc := 98) dX4_takeFrom_98 (in32_of rfl) ?_
  refine r_aload_n (pc := 99) (i := 0) dX4_takeFrom_99 rfl rfl ?_
  refine r_getfi (pc := 100) cks dX4_takeFrom_100 fl_X4_9 rfl hS.k7.1 hS.k7.2 ?_
  refine r_top (b := (un (I (s + 7)) 0 ((n0 : Nat) : Int)) 0) ((congrFun (sr_ne (by omega)) _).trans ((congrFun (sr_ne (by omega)) _).trans (sr_at _ _ _ _))) ?_
  refine r_top (b := (n0 : Int)) (un_at) ?_
  refine r_iconst (pc := 103) dX4_takeFrom_103 (in32_of rfl) ?_
  refine r_imulN (pc := 104) (c := ((4 * n0 : Nat) : Int)) dX4_takeFrom_104 (by unfold w32; omega) ?_
  refine r_cpN (pc := 105) (a := t) (a0 := t2) (0) (0) (4 * n0) dX4_takeFrom_105 (by omega) ac_X4_26 (Nat.le_of_ble_eq_true rfl) (Or.inr hS.2.1.2.2.2.2.2.1) (hS2.2.1.2.2.2.2.2.1.trans hS.2.1.2.2.2.2.2.1.symm) hS.2.2.2.2 hS2.2.2.2.2 (by omega) (by omega) (by omega) (by rw [hS2.2.1.2.2.2.2.2.2.2.2]; omega) (by rw [hS.2.1.2.2.2.2.2.2.2.2]; omega) ?_
  refine r_mem (I2 := sr (sr (sr (sr I (s + 7) (un (I (s + 7)) 0 ((n0 : Nat) : Int))) p (cpyR (I p2) 0 (I p) 0 n0)) o (cpyR (I o2) 0 (I o) 0 n0)) t (cpyR (I t2) 0 (I t) 0 (4 * n0))) ((congr (congrArg (fun fz_ gz_ => sr (sr (sr (sr I (s + 7) (un (I (s + 7)) 0 ((n0 : Nat) : Int))) p (cpyR (I p2) 0 (I p) 0 n0)) o (cpyR (I o2) 0 (I o) 0 n0)) t (cpyR fz_ 0 gz_ 0 (4 * n0))) (show (sr (sr (sr I (s + 7) (un (I (s + 7)) 0 ((n0 : Nat) : Int))) p (cpyR (I p2) 0 (I p) 0 n0)) o (cpyR (I o2) 0 (I o) 0 n0)) t2 = I t2 from (sr_ne (hx.2.2.2.1)).trans ((sr_ne (hx.2.2.1)).trans ((sr_ne (hy.2.2)).trans (rfl))))) (show (sr (sr (sr I (s + 7) (un (I (s + 7)) 0 ((n0 : Nat) : Int))) p (cpyR (I p2) 0 (I p) 0 n0)) o (cpyR (I o2) 0 (I o) 0 n0)) t = I t from (sr_ne (by omega)).trans ((sr_ne (by omega)).trans ((sr_ne (by omega)).trans (rfl))))).trans (rfl)) ?_
  exact r_vret (pc := 108) dX4_takeFrom_108 trivial hq
theorem cap_lt {c e : Nat} (h1 : ∃ k, k ≤ 8 ∧ c = 64 * 2 ^ k) (h2 : ∃ k, k ≤ 8 ∧ e = 64 * 2 ^ k) (h : c < e) : 2 * c ≤ e ∧ 64 ≤ c := by
  obtain ⟨k, k1, k2⟩ := h1
  obtain ⟨l, l1, l2⟩ := h2
  have hp := Nat.two_pow_pos k
  have hkl : k + 1 ≤ l := by
    rcases Nat.lt_or_ge k l with g | g
    · exact g
    · exfalso
      have := Nat.pow_le_pow_right (show 0 < 2 by decide) g
      omega
  have h3 := Nat.pow_le_pow_right (show 0 < 2 by decide) hkl
  rw [Nat.pow_succ] at h3
  omega
/-- what taking a ledger over leaves -/
def LfP (T U : Sh) (I K : Mi) (s p o t c p3 o3 t3 c3 p2 o2 t2 n0 : Nat) : Prop :=
  ShS U s p3 o3 t3 c3 ∧ Ext s T U c c3 ∧ ((p3 = p ∨ nx T ≤ p3) ∧ (o3 = o ∨ nx T ≤ o3) ∧ (t3 = t ∨ nx T ≤ t3)) ∧ (∀ b, b < nx T → b ≠ s + 7 → b ≠ p → b ≠ o → b ≠ t → K b = I b) ∧
  K (s + 7) 0 = (n0 : Int) ∧ ((∀ k, k < n0 → K p3 k = I p2 k ∧ K o3 k = I o2 k) ∧ ∀ k, k < 4 * n0 → K t3 k = I t2 k) ∧ n0 ≤ c3
theorem lf_0 {n0 : Nat} {s p o t c p2 o2 t2 : Nat} (hS : ShS T s p o t c) (hnc : n0 ≤ c) (hx : (p2 ≠ p ∧ p2 ≠ o ∧ p2 ≠ t) ∧ (o2 ≠ p ∧ o2 ≠ o ∧ o2 ≠ t) ∧ (t2 ≠ p ∧ t2 ≠ o ∧ t2 ≠ t)) : LfP T T I (sr (sr (sr (sr I (s + 7) (un (I (s + 7)) 0 (n0 : Int))) p (cpyR (I p2) 0 (I p) 0 n0)) o (cpyR (I o2) 0 (I o) 0 n0)) t (cpyR (I t2) 0 (I t) 0 (4 * n0))) s p o t c p o t c p2 o2 t2 n0 := by
  have hne := neS hS
  refine ⟨hS, Ext.id _ _ _, ⟨Or.inl rfl, Or.inl rfl, Or.inl rfl⟩, fun b _ h7 hp ho ht => by rw [sr_ne ht, sr_ne ho, sr_ne hp, sr_ne h7], ?_, ⟨fun k hk => ⟨?_, ?_⟩, fun k hk => ?_⟩, hnc⟩
  · rw [sr_ne (show s + 7 ≠ t by omega), sr_ne (show s + 7 ≠ o by omega), sr_ne (show s + 7 ≠ p by omega), sr_row, un_at]
  · rw [sr_ne (show p ≠ t by omega), sr_ne (show p ≠ o by omega), sr_row, cpyR_in (by omega)]; congr 1; omega
  · rw [sr_ne (show o ≠ t by omega), sr_row, cpyR_in (by omega)]; congr 1; omega
  · rw [sr_row, cpyR_in (by omega)]; congr 1; omega
end C35
