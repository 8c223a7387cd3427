section C48
variable {G : Gl} {d : Nat} {T : Sh} {I : Mi} {N : Nat → Int} {Q : Option AV → Sh → Mi → Prop}
theorem beR_1 (A : Nat → Int) (pp q : Nat) (N : Nat → Int) : ∀ i, (beR A pp q N i).1 = -2 ∨ 2 ≤ (beR A pp q N i).1 := by
  intro i
  induction i with
  | zero => exact Or.inl rfl
  | succ i ih =>
    rw [beR_succ]
    split
    · exact ih
    · right; show (2 : Int) ≤ ((i + 2 : Nat) : Int); omega
theorem be_keep {A : Nat → Int} {pp q i : Nat} {N : Nat → Int} (h : unl (pcI (i + 2) (beM A pp q N i) (pp - q)) (nN (beM A pp q N i)) = 0 → 0 < (beR A pp q N i).1 ∧ (beR A pp q N i).2 ≤ pcI (i + 2) (beM A pp q N i) (pp - q) 3) : beR A pp q N (i + 1) = beR A pp q N i := by
  rw [beR_succ]
  refine if_pos ?_
  unfold tbV
  by_cases g : unl (pcI (i + 2) (beM A pp q N i) (pp - q)) (nN (beM A pp q N i)) = 0
  · rw [if_pos g]; exact Or.inr (h g)
  · rw [if_neg g]; exact Or.inl (by decide)
theorem be_new {A : Nat → Int} {pp q i : Nat} {N : Nat → Int} (h : unl (pcI (i + 2) (beM A pp q N i) (pp - q)) (nN (beM A pp q N i)) = 0) (h0 : 0 ≤ pcI (i + 2) (beM A pp q N i) (pp - q) 3) (h1 : (beR A pp q N i).1 = -2 ∨ pcI (i + 2) (beM A pp q N i) (pp - q) 3 < (beR A pp q N i).2) : beR A pp q N (i + 1) = (((i + 2 : Nat) : Int), pcI (i + 2) (beM A pp q N i) (pp - q) 3) := by
  rw [beR_succ]
  have e : tbV (i + 2) pp q (beM A pp q N i) = pcI (i + 2) (beM A pp q N i) (pp - q) 3 := by unfold tbV; rw [if_pos h]
  rw [e]
  refine if_neg (fun g => ?_)
  rcases g with g | g
  · omega
  · rcases h1 with h1 | h1 <;> omega
theorem k_best {v u a m n q pp : Nat} {w : Int} {L A0 : Nat → Int} {s p o t c : Nat} (hS : ShS T s p o t c) (hv : TrO T v s u a m) {s1 p1 o1 t1 c1 u1 : Nat} (hS1 : ShS T s1 p1 o1 t1 c1) (hu1 : ShP T u1) (hd : 7 ≤ d) (hd1 : s1 + 15 ≤ v ∨ v + 25 ≤ s1) (hdu : u1 + 2 ≤ v ∨ v + 25 ≤ u1) (hap : apL p o t p1 o1 t1) (hst : StR L I s1 p1 o1 t1 N) (htc : tN N ≤ c1) (hL1 : ∀ k, k < 9 → I (u1 + 1) k = L k) (hP0 : PmO N q n) (hLd : LdOk N q n) (hpo : pOK N q) (hN0 : ¬ N 0 = 0) (hN6 : N 6 = 0) (hLp : plOk L) (h6 : L 6 = (pp : Int)) (hpp : pp ≤ 6) (hA0 : agN N A0) (hq : ∀ (U : Sh) (K : Mi) (p2 o2 t2 c2 : Nat), TrP T U I K s p o t c p2 o2 t2 c2 u 9 → Q (some (aI (bsV A0 pp q N w))) U K) : EvE G mX10_bestBlock d [aR v, aR s1, aR u1, aI w] T I Q := by
  have hq6 := hpo.2.2.1
  have hn2 := hP0.2.2.1
  have hu := hv.2.1.1
  have ha := hv.2.1.2.1
  have hm := hv.2.1.2.2
  have hvn := hv.2.2
  have hm0 := hm.1
  have hs0 := hS.1
  have hs10 := hS1.1
  refine EvE.mk (lv0 := [some (aR v), some (aR s1), some (aR u1), some (aI w), none, none, none, none]) (Nat.le_of_ble_eq_true rfl) (by decide +kernel) rfl ?_
  refine r_bipush (pc := 0) dX10_bestBlock_0 rfl (in32_of rfl) ?_
  refine r_istore (pc := 2) (i := 4) (lv' := [_, _, _, _, _, _, _, _]) dX10_bestBlock_2 (by decide) rfl ?_
  refine r_bipush (pc := 4) dX10_bestBlock_4 rfl (in32_of rfl) ?_
  refine r_istore (pc := 6) (i := 5) (lv' := [_, _, _, _, _, _, _, _]) dX10_bestBlock_6 (by decide) rfl ?_
  refine r_aload_n (pc := 8) (i := 0) dX10_bestBlock_8 rfl rfl ?_
  refine r_getfr (pc := 9) (b := u) cks dX10_bestBlock_9 fl_X10_21 rfl hv.1.1 hv.1.2.1 hv.1.2.2.2.1 ?_
  refine r_aload_n (pc := 12) (i := 2) dX10_bestBlock_12 rfl rfl ?_
  refine r_callV0 (pc := 13) (d - 1) [aR u1] dX10_bestBlock_13 (CV.mk2 mk_X6_takeFrom lk_X10_43) (RC.of (ltP0 hu) (kP0 hu) (by decide) rfl) rfl rfl (by omega) (Nat.le_of_ble_eq_true rfl) (Nat.le_of_ble_eq_true rfl) (k_planFrom hu hu1 (by omega) (by omega) ?_)
  refine ⟨rfl, fun _ => ?_⟩
  refine r_mem (I2 := sr I (u + 1) (cpyR (I (u1 + 1)) 0 (I (u + 1)) 0 9)) ((congr (congrArg (fun v0_ v1_ => (sr I (u + 1) (cpyR v0_ 0 v1_ 0 9))) (show I (u1 + 1) = I (u1 + 1) from rfl)) (show I (u + 1) = I (u + 1) from rfl)).trans (rfl)) ?_
  obtain ⟨K0, hK0⟩ : ∃ K0, K0 = sr I (u + 1) (cpyR (I (u1 + 1)) 0 (I (u + 1)) 0 9) := ⟨_, rfl⟩
  rw [← hK0]
  have hT0 : TrP T T I K0 s p o t c p o t c u 9 := by rw [hK0]; exact (TrP.id hS).row ⟨by omega, by omega⟩
  have hrow0 : ∀ j, j < 9 → j ≠ 5 → K0 (u + 1) j = L j := fun j hj _ => by rw [hK0, sr_row, cpyR_in (by omega), show 0 + (j - 0) = j by omega]; exact hL1 j hj
  refine r_getsA (pc := 16) (e := 0) (by decide) dX10_bestBlock_16 sl_X10_81 ?_
  refine r_iconst (pc := 19) dX10_bestBlock_19 (in32_of rfl) ?_
  refine r_xload (pc := 20) (e := 1) (x := 2) (by decide) dX10_bestBlock_20 (by decide) (show (5 : Int) < ((9 : Nat) : Int) by decide) rfl (in32_of rfl) ?_
  refine r_istore (pc := 21) (i := 6) (lv' := [_, _, _, _, _, _, _, _]) dX10_bestBlock_21 (by decide) rfl ?_
  refine loop2 (fun (i : Nat) (E : WE) => i ≤ 63 ∧ (∀ j, j < 9 → j ≠ 5 → E.2.1 (u + 1) j = L j) ∧ TrP T E.1 I E.2.1 s p o t c E.2.2.1 E.2.2.2.1 E.2.2.2.2.1 E.2.2.2.2.2 u 9) (fun (i : Nat) (E : WE) => 63 - i) (fun (i : Nat) (E : WE) => [some (aR v), some (aR s1), some (aR u1), some (aI w), some (aI ((beR A0 pp q N i).1)), some (aI ((beR A0 pp q N i).2)), some (aI ((i + 2 : Nat) : Int)), none]) (fun (i : Nat) (E : WE) => E.1) (fun (i : Nat) (E : WE) => E.2.1) ?_ 0 (T, K0, p, o, t, c) ⟨Nat.zero_le _, hrow0, hT0⟩
  intro i E hP ih
  have hP : i ≤ 63 ∧ (∀ j, j < 9 → j ≠ 5 → E.2.1 (u + 1) j = L j) ∧ TrP T E.1 I E.2.1 s p o t c E.2.2.1 E.2.2.2.1 E.2.2.2.2.1 E.2.2.2.2.2 u 9 := hP
  refine (?_ : Ev G mX10_bestBlock d 23 [some (aR v), some (aR s1), some (aR u1), some (aI w), some (aI ((beR A0 pp q N i).1)), some (aI ((beR A0 pp q N i).2)), some (aI ((i + 2 : Nat) : Int)), none] [] E.1 E.2.1 Q)
  obtain ⟨hst1, hS1E, hapE⟩ := hP.2.2.st hS hS1 (by omega) hap (by omega) (by omega) hst
  have hSE := hP.2.2.1
  have hvE := TrO_ext hv hP.2.2.2.1.1
  have huE := hvE.2.1.1
  have haE := hvE.2.1.2.1
  have hmE := hvE.2.1.2.2
  have hu1E := ShP_ext hu1 hP.2.2.2.1.1 (by omega)
  have hb1 := beR_1 A0 pp q N i
  refine r_iload (pc := 23) (i := 6) dX10_bestBlock_23 rfl ?_
  refine r_getsA (pc := 25) (e := 1) (by decide) dX10_bestBlock_25 sl_X10_85 ?_
  refine r_iconst (pc := 28) dX10_bestBlock_28 (in32_of rfl) ?_
  refine r_xload (pc := 29) (e := 2) (x := 64) (by decide) dX10_bestBlock_29 (by decide) (show (5 : Int) < ((9 : Nat) : Int) by decide) rfl (in32_of rfl) ?_
  refine r_icmp_gt (pc := 30) (tgt := 126) dX10_bestBlock_30 rfl (fun c30 => ?_) (fun c30 => ?_)
  · refine r_iload_n (pc := 126) (i := 3) dX10_bestBlock_126 rfl rfl ?_
    refine r_if_ne (pc := 127) (tgt := 135) dX10_bestBlock_127 rfl (fun c127 => ?_) (fun c127 => ?_)
    · refine r_iload (pc := 135) (i := 5) dX10_bestBlock_135 rfl ?_
      have hi63 : i = 63 := by omega
      subst hi63
      have hv_ : bsV A0 pp q N w = (beR A0 pp q N 63).2 := by unfold bsV; rw [if_neg (by omega)]
      exact r_iret (pc := 137) dX10_bestBlock_137 trivial (by have h := hq _ _ _ _ _ _ hP.2.2; rw [hv_] at h; exact h)
    · have c127 := Decidable.of_not_not c127
      refine r_iload (pc := 130) (i := 4) dX10_bestBlock_130 rfl ?_
      refine r_goto (pc := 132) (tgt := 137) dX10_bestBlock_132 rfl ?_
      have hi63 : i = 63 := by omega
      subst hi63
      have hv_ : bsV A0 pp q N w = (beR A0 pp q N 63).1 := by unfold bsV; rw [if_pos (by omega)]
      exact r_iret (pc := 137) dX10_bestBlock_137 trivial (by have h := hq _ _ _ _ _ _ hP.2.2; rw [hv_] at h; exact h)
  · refine r_aload_n (pc := 33) (i := 0) dX10_bestBlock_33 rfl rfl ?_
    refine r_getfr (pc := 34) (b := s) cks dX10_bestBlock_34 fl_X10_12 rfl hvE.1.1 hvE.1.2.1 hvE.1.2.2.1 ?_
    refine r_aload_n (pc := 37) (i := 1) dX10_bestBlock_37 rfl rfl ?_
    refine r_callV0 (pc := 38) (d - 1) [aR s1] dX10_bestBlock_38 (CV.mk2 mk_X9_takeFrom lk_X10_39) (RC.of (ltS0 hSE) (kS0 hSE) (by decide) rfl) rfl rfl (by omega) (Nat.le_of_ble_eq_true rfl) (Nat.le_of_ble_eq_true rfl) (k_stFrom (n := n) (q := q) (L := L) (N := N) hSE hS1E (by omega) (by omega) hapE hst1 htc hP0 hLd hpo.2.1 hLp (fun U K p3 o3 t3 c3 hA => ?_))
    refine ⟨rfl, fun _ => ?_⟩
    have hSU := hA.1
    have hvU := TrO_ext hvE hA.2.1.1
    have huU := hvU.2.1.1
    have haU := hvU.2.1.2.1
    have hmU := hvU.2.1.2.2
    have hS1U := ShS_ext hS1E hA.2.1.1 (by omega)
    have hu1U := ShP_ext hu1E hA.2.1.1 (by omega)
    have hagi : agN N (beM A0 pp q N i) := beM_ag hA0 i
    have hA1 := hA.ag hpo.2.1 (sg_256 hLp) hagi
    have hnM : nN (beM A0 pp q N i) = n := (agN_n hagi).trans hP0.nn
    have hpM := pOK_ag hpo hagi
    refine r_aload_n (pc := 41) (i := 0) dX10_bestBlock_41 rfl rfl ?_
    refine r_getfr (pc := 42) (b := u) cks dX10_bestBlock_42 fl_X10_21 rfl hvU.1.1 hvU.1.2.1 hvU.1.2.2.2.1 ?_
    refine r_iconst (pc := 45) dX10_bestBlock_45 (in32_of rfl) ?_
    refine r_iload (pc := 46) (i := 6) dX10_bestBlock_46 rfl ?_
    refine r_callV0 (pc := 48) (d - 1) [aI 5, aI ((i + 2 : Nat) : Int)] dX10_bestBlock_48 (CV.mk2 mk_X6_put lk_X10_88) (RC.of (ltP0 huU) (kP0 huU) (by decide) rfl) rfl rfl (by omega) (Nat.le_of_ble_eq_true rfl) (Nat.le_of_ble_eq_true rfl) (k_put (i := 5) (x := ((i + 2 : Nat) : Int)) huU (by decide) ?_)
    refine ⟨rfl, fun _ => ?_⟩
    refine r_mem (I2 := sr K (u + 1) (un (K (u + 1)) 5 ((i + 2 : Nat) : Int))) ((congrArg (fun v0_ => (sr K (u + 1) (un v0_ 5 ((i + 2 : Nat) : Int)))) (show K (u + 1) = K (u + 1) from rfl)).trans (rfl)) ?_
    obtain ⟨K2, hK2⟩ : ∃ K2, K2 = sr K (u + 1) (un (K (u + 1)) 5 ((i + 2 : Nat) : Int)) := ⟨_, rfl⟩
    rw [← hK2]
    have hA2 : AcP E.1 U E.2.1 K2 s E.2.2.1 E.2.2.2.1 E.2.2.2.2.1 E.2.2.2.2.2 p3 o3 t3 c3 L (beM A0 pp q N i) q n u 9 := by rw [hK2]; exact (hA1.wd (Or.inr rfl) (Or.inr rfl)).row (by omega) (by omega) ⟨by omega, by omega⟩
    have hT2 := hA2.P
    have hrow2 : ∀ j, j < 9 → j ≠ 5 → K2 (u + 1) j = L j := fun j hj j5 => by rw [hK2, sr_row, un_ne j5, hA.fr hSE (by omega) (by omega) (by omega)]; exact hP.2.1 j hj j5
    have hr5 : K2 (u + 1) 5 = ((i + 2 : Nat) : Int) := by rw [hK2, sr_row, un_at]
    refine r_aload_n (pc := 51) (i := 0) dX10_bestBlock_51 rfl rfl ?_
    refine r_bipush (pc := 52) dX10_bestBlock_52 rfl (in32_of rfl) ?_
    refine r_callV0 (pc := 54) (d - 1) [aI 6] dX10_bestBlock_54 (CV.mk2 mk_X10_passOn lk_X10_46) (RC.of hvU.1.2.1 hvU.1.1 (by decide) rfl) rfl rfl (by omega) (Nat.le_of_ble_eq_true rfl) (Nat.le_of_ble_eq_true rfl) (k_passOn (n := n) (B := i + 2) (q := q) (pp := pp) (more := 6) (L := L) (X := K2 (u + 1)) (N := beM A0 pp q N i) hSU hvU (by omega) (fun _ _ => rfl) hr5 ((hrow2 6 (by decide) (by decide)).trans h6) hLp hA2.2.2.2.1 hA2.2.2.2.2.1 hA2.2.2.2.2.2.1 hA2.2.2.2.2.2.2 hpM (by rw [hagi 0 (by omega)]; exact hN0) (by rw [hagi 6 (by omega)]; exact hN6) (by omega) (by omega) hpp (fun V J p4 o4 t4 c4 hA3 => ?_))
    refine ⟨rfl, fun _ => ?_⟩
    rw [show min 6 (pp - q) = pp - q by omega] at hA3
    have hSV := hA3.1
    have hvV := TrO_ext hvU hA3.2.1.1
    have huV := hvV.2.1.1
    have h30 : 0 ≤ (pcI (i + 2) (beM A0 pp q N i) (pp - q)) 3 := (ok_3.mp (hA3.2.2.2.2.2.1.1 3)).1
    refine r_iload (pc := 57) (i := 4) dX10_bestBlock_57 rfl ?_
    refine r_bipush (pc := 59) dX10_bestBlock_59 rfl (in32_of rfl) ?_
    refine r_icmp_eq (pc := 61) (tgt := 79) dX10_bestBlock_61 rfl (fun c61 => ?_) (fun c61 => ?_)
    · refine r_iconst (pc := 79) dX10_bestBlock_79 (in32_of rfl) ?_
      refine r_goto (pc := 80) (tgt := 84) dX10_bestBlock_80 rfl ?_
      refine r_istore (pc := 84) (i := 7) (lv' := [_, _, _, _, _, _, _, _]) dX10_bestBlock_84 (by decide) rfl ?_
      refine r_iload (pc := 86) (i := 7) dX10_bestBlock_86 rfl ?_
      refine r_if_eq (pc := 88) (tgt := 120) dX10_bestBlock_88 rfl (fun c88 => absurd c88 (by omega)) (fun c88 => ?_)
      refine r_aload_n (pc := 91) (i := 0) dX10_bestBlock_91 rfl rfl ?_
      refine r_getfr (pc := 92) (b := s) cks dX10_bestBlock_92 fl_X10_12 rfl hvV.1.1 hvV.1.2.1 hvV.1.2.2.1 ?_
      refine r_getfr (pc := 95) (b := s + 3) cks dX10_bestBlock_95 fl_X10_62 rfl (kS0 hSV) (ltS0 hSV) (rS0_11 hSV) ?_
      refine r_callV1 (pc := 98) (d - 1) [] dX10_bestBlock_98 (CV.mk2 mk_X3_unlike lk_X10_66) (RC.of (ltS (k := 3) hSV (by omega)) (kS3 hSV) (by decide) rfl) rfl rfl (by omega) (Nat.le_of_ble_eq_true rfl) (Nat.le_of_ble_eq_true rfl) (k_unlike (n := n) hSV (hA3.2.2.2.1.2.2.2.1.1.trans hA3.2.2.2.2.2.1.2.1) hn2 ?_)
      refine ⟨_, rfl, fun _ => ?_⟩
      refine r_top (b := ((unl (pcI (i + 2) (beM A0 pp q N i) (pp - q)) n : Nat) : Int)) (St_unl hA3.2.2.2.1 hA3.2.2.2.2.2.1) ?_
      refine r_if_ne (pc := 101) (tgt := 120) dX10_bestBlock_101 rfl (fun c101 => ?_) (fun c101 => ?_)
      · refine r_iincN (pc := 120) (i := 6) (c := ((i + 3 : Nat) : Int)) (lv' := [_, _, _, _, _, _, _, _]) dX10_bestBlock_120 rfl (by decide) (by unfold w32; omega) rfl ?_
        refine r_goto (pc := 123) (tgt := 23) dX10_bestBlock_123 rfl ?_
        refine Ev.weak (lv2 := [some (aR v), some (aR s1), some (aR u1), some (aI w), some (aI ((beR A0 pp q N i).1)), some (aI ((beR A0 pp q N i).2)), some (aI ((i + 3 : Nat) : Int)), none]) ⟨Or.inr rfl, Or.inr rfl, Or.inr rfl, Or.inr rfl, Or.inr rfl, Or.inr rfl, Or.inr rfl, Or.inl rfl, trivial⟩ ?_
        have hz := be_keep (A := A0) (pp := pp) (q := q) (i := i) (N := N) (fun h => absurd h (by rw [hnM]; omega))
        exact Ev.re (by rw [hz]) rfl (ih (i + 1) (V, J, p4, o4, t4, c4) ⟨by omega, fun j hj j5 => (congrFun (hA3.fr hSU (by omega) (by omega) (by omega)) j).trans (hrow2 j hj j5), hP.2.2.tr (hT2.tr (hA3.P.wd (Or.inl (by omega)) (Or.inl (by omega))))⟩ (by omega))
      · have c101 := Decidable.of_not_not c101
        refine r_iload (pc := 104) (i := 6) dX10_bestBlock_104 rfl ?_
        refine r_istore (pc := 106) (i := 4) (lv' := [_, _, _, _, _, _, _, _]) dX10_bestBlock_106 (by decide) rfl ?_
        refine r_aload_n (pc := 108) (i := 0) dX10_bestBlock_108 rfl rfl ?_
        refine r_getfr (pc := 109) (b := s) cks dX10_bestBlock_109 fl_X10_12 rfl hvV.1.1 hvV.1.2.1 hvV.1.2.2.1 ?_
        refine r_getfr (pc := 112) (b := s + 7) cks dX10_bestBlock_112 fl_X10_72 rfl (kS0 hSV) (ltS0 hSV) (rS0_12 hSV) ?_
        refine r_getfi (pc := 115) cks dX10_bestBlock_115 fl_X10_76 rfl (kS7 hSV) (ltS (k := 7) hSV (by omega)) ?_
        refine r_top (b := (pcI (i + 2) (beM A0 pp q N i) (pp - q)) 3) (hA3.2.2.2.1.2.2.2.2.1.1) ?_
        refine r_istore (pc := 118) (i := 5) (lv' := [_, _, _, _, _, _, _, _]) dX10_bestBlock_118 (by decide) rfl ?_
        refine r_iincN (pc := 120) (i := 6) (c := ((i + 3 : Nat) : Int)) (lv' := [_, _, _, _, _, _, _, _]) dX10_bestBlock_120 rfl (by decide) (by unfold w32; omega) rfl ?_
        refine r_goto (pc := 123) (tgt := 23) dX10_bestBlock_123 rfl ?_
        refine Ev.weak (lv2 := [some (aR v), some (aR s1), some (aR u1), some (aI w), some (aI ((i + 2 : Nat) : Int)), some (aI ((pcI (i + 2) (beM A0 pp q N i) (pp - q)) 3)), some (aI ((i + 3 : Nat) : Int)), none]) ⟨Or.inr rfl, Or.inr rfl, Or.inr rfl, Or.inr rfl, Or.inr rfl, Or.inr rfl, Or.inr rfl, Or.inl rfl, trivial⟩ ?_
        have hz := be_new (A := A0) (pp := pp) (q := q) (i := i) (N := N) (by rw [hnM]; omega) h30 (Or.inl c61)
        exact Ev.re (by rw [hz]) rfl (ih (i + 1) (V, J, p4, o4, t4, c4) ⟨by omega, fun j hj j5 => (congrFun (hA3.fr hSU (by omega) (by omega) (by omega)) j).trans (hrow2 j hj j5), hP.2.2.tr (hT2.tr (hA3.P.wd (Or.inl (by omega)) (Or.inl (by omega))))⟩ (by omega))
    · refine r_aload_n (pc := 64) (i := 0) dX10_bestBlock_64 rfl rfl ?_
      refine r_getfr (pc := 65) (b := s) cks dX10_bestBlock_65 fl_X10_12 rfl hvV.1.1 hvV.1.2.1 hvV.1.2.2.1 ?_
      refine r_getfr (pc := 68) (b := s + 7) cks dX10_bestBlock_68 fl_X10_72 rfl (kS0 hSV) (ltS0 hSV) (rS0_12 hSV) ?_
      refine r_getfi (pc := 71) cks dX10_bestBlock_71 fl_X10_76 rfl (kS7 hSV) (ltS (k := 7) hSV (by omega)) ?_
      refine r_top (b := (pcI (i + 2) (beM A0 pp q N i) (pp - q)) 3) (hA3.2.2.2.1.2.2.2.2.1.1) ?_
      refine r_iload (pc := 74) (i := 5) dX10_bestBlock_74 rfl ?_
      refine r_icmp_ge (pc := 76) (tgt := 83) dX10_bestBlock_76 rfl (fun c76 => ?_) (fun c76 => ?_)
      · refine r_iconst (pc := 83) dX10_bestBlock_83 (in32_of rfl) ?_
        refine r_istore (pc := 84) (i := 7) (lv' := [_, _, _, _, _, _, _, _]) dX10_bestBlock_84 (by decide) rfl ?_
        refine r_iload (pc := 86) (i := 7) dX10_bestBlock_86 rfl ?_
        refine r_if_eq (pc := 88) (tgt := 120) dX10_bestBlock_88 rfl (fun c88 => ?_) (fun c88 => absurd (by omega) c88)
        refine r_iincN (pc := 120) (i := 6) (c := ((i + 3 : Nat) : Int)) (lv' := [_, _, _, _, _, _, _, _]) dX10_bestBlock_120 rfl (by decide) (by unfold w32; omega) rfl ?_
        refine r_goto (pc := 123) (tgt := 23) dX10_bestBlock_123 rfl ?_
        refine Ev.weak (lv2 := [some (aR v), some (aR s1), some (aR u1), some (aI w), some (aI ((beR A0 pp q N i).1)), some (aI ((beR A0 pp q N i).2)), some (aI ((i + 3 : Nat) : Int)), none]) ⟨Or.inr rfl, Or.inr rfl, Or.inr rfl, Or.inr rfl, Or.inr rfl, Or.inr rfl, Or.inr rfl, Or.inl rfl, trivial⟩ ?_
        have hz := be_keep (A := A0) (pp := pp) (q := q) (i := i) (N := N) (fun _ => ⟨by omega, by omega⟩)
        exact Ev.re (by rw [hz]) rfl (ih (i + 1) (V, J, p4, o4, t4, c4) ⟨by omega, fun j hj j5 => (congrFun (hA3.fr hSU (by omega) (by omega) (by omega)) j).trans (hrow2 j hj j5), hP.2.2.tr (hT2.tr (hA3.P.wd (Or.inl (by omega)) (Or.inl (by omega))))⟩ (by omega))
      · refine r_iconst (pc := 79) dX10_bestBlock_79 (in32_of rfl) ?_
        refine r_goto (pc := 80) (tgt := 84) dX10_bestBlock_80 rfl ?_
        refine r_istore (pc := 84) (i := 7) (lv' := [_, _, _, _, _, _, _, _]) dX10_bestBlock_84 (by decide) rfl ?_
        refine r_iload (pc := 86) (i := 7) dX10_bestBlock_86 rfl ?_
        refine r_if_eq (pc := 88) (tgt := 120) dX10_bestBlock_88 rfl (fun c88 => absurd c88 (by omega)) (fun c88 => ?_)
        refine r_aload_n (pc := 91) (i := 0) dX10_bestBlock_91 rfl rfl ?_
        refine r_getfr (pc := 92) (b := s) cks dX10_bestBlock_92 fl_X10_12 rfl hvV.1.1 hvV.1.2.1 hvV.1.2.2.1 ?_
        refine r_getfr (pc := 95) (b := s + 3) cks dX10_bestBlock_95 fl_X10_62 rfl (kS0 hSV) (ltS0 hSV) (rS0_11 hSV) ?_
        refine r_callV1 (pc := 98) (d - 1) [] dX10_bestBlock_98 (CV.mk2 mk_X3_unlike lk_X10_66) (RC.of (ltS (k := 3) hSV (by omega)) (kS3 hSV) (by decide) rfl) rfl rfl (by omega) (Nat.le_of_ble_eq_true rfl) (Nat.le_of_ble_eq_true rfl) (k_unlike (n := n) hSV (hA3.2.2.2.1.2.2.2.1.1.trans hA3.2.2.2.2.2.1.2.1) hn2 ?_)
        refine ⟨_, rfl, fun _ => ?_⟩
        refine r_top (b := ((unl (pcI (i + 2) (beM A0 pp q N i) (pp - q)) n : Nat) : Int)) (St_unl hA3.2.2.2.1 hA3.2.2.2.2.2.1) ?_
        refine r_if_ne (pc := 101) (tgt := 120) dX10_bestBlock_101 rfl (fun c101 => ?_) (fun c101 => ?_)
        · refine r_iincN (pc := 120) (i := 6) (c := ((i + 3 : Nat) : Int)) (lv' := [_, _, _, _, _, _, _, _]) dX10_bestBlock_120 rfl (by decide) (by unfold w32; omega) rfl ?_
          refine r_goto (pc := 123) (tgt := 23) dX10_bestBlock_123 rfl ?_
          refine Ev.weak (lv2 := [some (aR v), some (aR s1), some (aR u1), some (aI w), some (aI ((beR A0 pp q N i).1)), some (aI ((beR A0 pp q N i).2)), some (aI ((i + 3 : Nat) : Int)), none]) ⟨Or.inr rfl, Or.inr rfl, Or.inr rfl, Or.inr rfl, Or.inr rfl, Or.inr rfl, Or.inr rfl, Or.inl rfl, trivial⟩ ?_
          have hz := be_keep (A := A0) (pp := pp) (q := q) (i := i) (N := N) (fun h => absurd h (by rw [hnM]; omega))
          exact Ev.re (by rw [hz]) rfl (ih (i + 1) (V, J, p4, o4, t4, c4) ⟨by omega, fun j hj j5 => (congrFun (hA3.fr hSU (by omega) (by omega) (by omega)) j).trans (hrow2 j hj j5), hP.2.2.tr (hT2.tr (hA3.P.wd (Or.inl (by omega)) (Or.inl (by omega))))⟩ (by omega))
        · have c101 := Decidable.of_not_not c101
          refine r_iload (pc := 104) (i := 6) dX10_bestBlock_104 rfl ?_
          refine r_istore (pc := 106) (i := 4) (lv' := [_, _, _, _, _, _, _, _]) dX10_bestBlock_106 (by decide) rfl ?_
          refine r_aload_n (pc := 108) (i := 0) dX10_bestBlock_108 rfl rfl ?_
          refine r_getfr (pc := 109) (b := s) cks dX10_bestBlock_109 fl_X10_12 rfl hvV.1.1 hvV.1.2.1 hvV.1.2.2.1 ?_
          refine r_getfr (pc := 112) (b := s + 7) cks dX10_bestBlock_112 fl_X10_72 rfl (kS0 hSV) (ltS0 hSV) (rS0_12 hSV) ?_
          refine r_getfi (pc := 115) cks dX10_bestBlock_115 fl_X10_76 rfl (kS7 hSV) (ltS (k := 7) hSV (by omega)) ?_
          refine r_top (b := (pcI (i + 2) (beM A0 pp q N i) (pp - q)) 3) (hA3.2.2.2.1.2.2.2.2.1.1) ?_
          refine r_istore (pc := 118) (i := 5) (lv' := [_, _, _, _, _, _, _, _]) dX10_bestBlock_118 (by decide) rfl ?_
          refine r_iincN (pc := 120) (i := 6) (c := ((i + 3 : Nat) : Int)) (lv' := [_, _, _, _, _, _, _, _]) dX10_bestBlock_120 rfl (by decide) (by unfold w32; omega) rfl ?_
          refine r_goto (pc := 123) (tgt := 23) dX10_bestBlock_123 rfl ?_
          refine Ev.weak (lv2 := [some (aR v), some (aR s1), some (aR u1), some (aI w), some (aI ((i + 2 : Nat) : Int)), some (aI ((pcI (i + 2) (beM A0 pp q N i) (pp - q)) 3)), some (aI ((i + 3 : Nat) : Int)), none]) ⟨Or.inr rfl, Or.inr rfl, Or.inr rfl, Or.inr rfl, Or.inr rfl, Or.inr rfl, Or.inr rfl, Or.inl rfl, trivial⟩ ?_
          have hz := be_new (A := A0) (pp := pp) (q := q) (i := i) (N := N) (by rw [hnM]; omega) h30 (Or.inr (by omega))
          exact Ev.re (by rw [hz]) rfl (ih (i + 1) (V, J, p4, o4, t4, c4) ⟨by omega, fun j hj j5 => (congrFun (hA3.fr hSU (by omega) (by omega) (by omega)) j).trans (hrow2 j hj j5), hP.2.2.tr (hT2.tr (hA3.P.wd (Or.inl (by omega)) (Or.inl (by omega))))⟩ (by omega))
end C48
