section C47
variable {G : Gl} {d : Nat} {T : Sh} {I : Mi} {N : Nat → Int} {Q : Option AV → Sh → Mi → Prop}
theorem pc_1 (B : Nat) (N : Nat → Int) (k : Nat) : pcI B (pcI B N k) 1 = pcI B N (k + 1) := rfl
theorem tlN_rd {N : Nat → Int} (h : Rng N) : N 3 = ((tN N : Nat) : Int) := tN_rd h
theorem k_rounds {v u a m n B q pp : Nat} {w : Int} {L : Nat → Int} {s p o t c : Nat} (hS : ShS T s p o t c) (hv : TrO T v s u a m) {s1 p1 o1 t1 c1 u1 : Nat} (hS1 : ShS T s1 p1 o1 t1 c1) (hu1 : ShP T u1) (hd : 7 ≤ d) (hd1 : s1 + 15 ≤ v ∨ v + 25 ≤ s1) (hdu : u1 + 2 ≤ v ∨ v + 25 ≤ u1) (hap : apL p o t p1 o1 t1) (hst : StR L I s1 p1 o1 t1 N) (htc : tN N ≤ c1) (hL1 : ∀ k, k < 9 → I (u1 + 1) k = L k) (hP0 : PmO N q n) (hLd : LdOk N q n) (hpo : pOK N q) (hN0 : ¬ N 0 = 0) (hN6 : N 6 = 0) (hLp : plOk L) (h6 : L 6 = (pp : Int)) (hpp : pp ≤ 6) (h5 : L 5 = (B : Int)) (hB1 : 2 ≤ B) (hB2 : B ≤ 64) (hq : ∀ (U : Sh) (K : Mi) (p2 o2 t2 c2 : Nat), TrP T U I K s p o t c p2 o2 t2 c2 u 9 → Q (some (aI (rdV B pp q N w))) U K) : EvE G mX10_roundsTillAlike d [aR v, aR s1, aR u1, aI w] T I Q := by
  have hq6 := hpo.2.2.1
  have hn2 := hP0.2.2.1
  have hu := hv.2.1.1
  have ha := hv.2.1.2.1
  have hm := hv.2.1.2.2
  have hvn := hv.2.2
  have hm0 := hm.1
  have hs0 := hS.1
  have hs10 := hS1.1
  refine EvE.mk (lv0 := [some (aR v), some (aR s1), some (aR u1), some (aI w), none]) (Nat.le_of_ble_eq_true rfl) (by decide +kernel) rfl ?_
  refine r_aload_n (pc := 0) (i := 0) dX10_roundsTillAlike_0 rfl rfl ?_
  refine r_getfr (pc := 1) (b := s) cks dX10_roundsTillAlike_1 fl_X10_12 rfl hv.1.1 hv.1.2.1 hv.1.2.2.1 ?_
  refine r_aload_n (pc := 4) (i := 1) dX10_roundsTillAlike_4 rfl rfl ?_
  refine r_callV0 (pc := 5) (d - 1) [aR s1] dX10_roundsTillAlike_5 (CV.mk2 mk_X9_takeFrom lk_X10_39) (RC.of (ltS0 hS) (kS0 hS) (by decide) rfl) rfl rfl (by omega) (Nat.le_of_ble_eq_true rfl) (Nat.le_of_ble_eq_true rfl) (k_stFrom (n := n) (q := q) (L := L) (N := N) hS hS1 (by omega) (by omega) hap hst htc hP0 hLd hpo.2.1 hLp (fun U K p2 o2 t2 c2 hA => ?_))
  refine ⟨rfl, fun _ => ?_⟩
  have hSU := hA.1
  have hvU := TrO_ext hv hA.2.1.1
  have huU := hvU.2.1.1
  have haU := hvU.2.1.2.1
  have hmU := hvU.2.1.2.2
  have hS1U := ShS_ext hS1 hA.2.1.1 (by omega)
  have hu1U := ShP_ext hu1 hA.2.1.1 (by omega)
  refine r_aload_n (pc := 8) (i := 0) dX10_roundsTillAlike_8 rfl rfl ?_
  refine r_getfr (pc := 9) (b := u) cks dX10_roundsTillAlike_9 fl_X10_21 rfl hvU.1.1 hvU.1.2.1 hvU.1.2.2.2.1 ?_
  refine r_aload_n (pc := 12) (i := 2) dX10_roundsTillAlike_12 rfl rfl ?_
  refine r_callV0 (pc := 13) (d - 1) [aR u1] dX10_roundsTillAlike_13 (CV.mk2 mk_X6_takeFrom lk_X10_43) (RC.of (ltP0 huU) (kP0 huU) (by decide) rfl) rfl rfl (by omega) (Nat.le_of_ble_eq_true rfl) (Nat.le_of_ble_eq_true rfl) (k_planFrom huU hu1U (by omega) (by omega) ?_)
  refine ⟨rfl, fun _ => ?_⟩
  refine r_mem (I2 := sr K (u + 1) (cpyR (K (u1 + 1)) 0 (K (u + 1)) 0 9)) ((congr (congrArg (fun v0_ v1_ => (sr K (u + 1) (cpyR v0_ 0 v1_ 0 9))) (show K (u1 + 1) = K (u1 + 1) from rfl)) (show K (u + 1) = K (u + 1) from rfl)).trans (rfl)) ?_
  obtain ⟨hA1, hrow⟩ := tk_plan hA hv hS hu1 hdu hL1
  obtain ⟨K1, hK1⟩ : ∃ K1, K1 = sr K (u + 1) (cpyR (K (u1 + 1)) 0 (K (u + 1)) 0 9) := ⟨_, rfl⟩
  rw [← hK1] at hA1 hrow ⊢
  refine r_iconst (pc := 16) dX10_roundsTillAlike_16 (in32_of rfl) ?_
  refine r_istore (pc := 17) (i := 4) (lv' := [_, _, _, _, _]) dX10_roundsTillAlike_17 (by decide) rfl ?_
  refine loop2 (fun (k : Nat) (E : WE) => (k ≤ pp - q ∧ rdS B n (pp - q) N (7 - k) k = rdE B pp q N) ∧ (∀ j, j < 9 → E.2.1 (u + 1) j = L j) ∧ AcP T E.1 I E.2.1 s p o t c E.2.2.1 E.2.2.2.1 E.2.2.2.2.1 E.2.2.2.2.2 L (pcI B N k) (q + k) n u 9) (fun (k : Nat) (E : WE) => pp - q - k) (fun (k : Nat) (E : WE) => [some (aR v), some (aR s1), some (aR u1), some (aI w), some (aI ((k : Nat) : Int))]) (fun (k : Nat) (E : WE) => E.1) (fun (k : Nat) (E : WE) => E.2.1) ?_ 0 (U, K1, p2, o2, t2, c2) ⟨⟨Nat.zero_le _, by unfold rdE; rw [hP0.nn]⟩, hrow, hA1⟩
  intro k E hP ih
  have hP : (k ≤ pp - q ∧ rdS B n (pp - q) N (7 - k) k = rdE B pp q N) ∧ (∀ j, j < 9 → E.2.1 (u + 1) j = L j) ∧ AcP T E.1 I E.2.1 s p o t c E.2.2.1 E.2.2.2.1 E.2.2.2.2.1 E.2.2.2.2.2 L (pcI B N k) (q + k) n u 9 := hP
  refine (?_ : Ev G mX10_roundsTillAlike d 19 [some (aR v), some (aR s1), some (aR u1), some (aI w), some (aI ((k : Nat) : Int))] [] E.1 E.2.1 Q)
  have hSE := hP.2.2.1
  have hvE := TrO_ext hv hP.2.2.2.1.1
  have huE := hvE.2.1.1
  have haE := hvE.2.1.2.1
  have hmE := hvE.2.1.2.2
  have hS1E := ShS_ext hS1 hP.2.2.2.1.1 (by omega)
  have hu1E := ShP_ext hu1 hP.2.2.2.1.1 (by omega)
  have hk6 : q + k ≤ 6 := by omega
  have hpk := pc_ok hB1 hpo k hk6
  refine r_iload (pc := 19) (i := 4) dX10_roundsTillAlike_19 rfl ?_
  refine r_bipush (pc := 21) dX10_roundsTillAlike_21 rfl (in32_of rfl) ?_
  refine r_icmp_gt (pc := 23) (tgt := 100) dX10_roundsTillAlike_23 rfl (fun c23 => absurd c23 (by omega)) (fun c23 => ?_)
  refine r_aload_n (pc := 26) (i := 0) dX10_roundsTillAlike_26 rfl rfl ?_
  refine r_getfr (pc := 27) (b := s) cks dX10_roundsTillAlike_27 fl_X10_12 rfl hvE.1.1 hvE.1.2.1 hvE.1.2.2.1 ?_
  refine r_getfr (pc := 30) (b := s + 3) cks dX10_roundsTillAlike_30 fl_X10_62 rfl (kS0 hSE) (ltS0 hSE) (rS0_11 hSE) ?_
  refine r_callV1 (pc := 33) (d - 1) [] dX10_roundsTillAlike_33 (CV.mk2 mk_X3_unlike lk_X10_66) (RC.of (ltS (k := 3) hSE (by omega)) (kS3 hSE) (by decide) rfl) rfl rfl (by omega) (Nat.le_of_ble_eq_true rfl) (Nat.le_of_ble_eq_true rfl) (k_unlike (n := n) hSE (hP.2.2.2.2.2.1.2.2.2.1.1.trans hP.2.2.2.2.2.2.2.1.2.1) hn2 ?_)
  refine ⟨_, rfl, fun _ => ?_⟩
  refine r_top (b := ((unl (pcI B N k) n : Nat) : Int)) (St_unl hP.2.2.2.2.2.1 hP.2.2.2.2.2.2.2.1) ?_
  refine r_if_ne (pc := 36) (tgt := 67) dX10_roundsTillAlike_36 rfl (fun c36 => ?_) (fun c36 => ?_)
  · refine r_aload_n (pc := 67) (i := 0) dX10_roundsTillAlike_67 rfl rfl ?_
    refine r_getfr (pc := 68) (b := s) cks dX10_roundsTillAlike_68 fl_X10_12 rfl hvE.1.1 hvE.1.2.1 hvE.1.2.2.1 ?_
    refine r_getfi (pc := 71) cks dX10_roundsTillAlike_71 fl_X10_50 rfl (kS0 hSE) (ltS0 hSE) ?_
    refine r_top (b := ((q + k : Nat) : Int)) (hP.2.2.2.2.2.1.1.2.2.2.2.2.2.1.trans hpk.1.2.1) ?_
    refine r_aload_n (pc := 74) (i := 0) dX10_roundsTillAlike_74 rfl rfl ?_
    refine r_getfr (pc := 75) (b := u) cks dX10_roundsTillAlike_75 fl_X10_21 rfl hvE.1.1 hvE.1.2.1 hvE.1.2.2.2.1 ?_
    refine r_bipush (pc := 78) dX10_roundsTillAlike_78 rfl (in32_of rfl) ?_
    refine r_callV1 (pc := 80) (d - 1) [aI 6] dX10_roundsTillAlike_80 (CV.mk2 mk_X6_number lk_X10_54) (RC.of (ltP0 huE) (kP0 huE) (by decide) rfl) rfl rfl (by omega) (Nat.le_of_ble_eq_true rfl) (Nat.le_of_ble_eq_true rfl) (k_num (L := L) huE 6 (by decide) hP.2.1 ?_)
    refine ⟨_, rfl, fun _ => ?_⟩
    refine r_top (b := ((pp : Nat) : Int)) h6 ?_
    refine r_icmp_lt (pc := 83) (tgt := 89) dX10_roundsTillAlike_83 rfl (fun c83 => ?_) (fun c83 => ?_)
    · refine r_aload_n (pc := 89) (i := 0) dX10_roundsTillAlike_89 rfl rfl ?_
      refine r_iconst (pc := 90) dX10_roundsTillAlike_90 (in32_of rfl) ?_
      refine r_callV0 (pc := 91) (d - 1) [aI 1] dX10_roundsTillAlike_91 (CV.mk2 mk_X10_passOn lk_X10_46) (RC.of hvE.1.2.1 hvE.1.1 (by decide) rfl) rfl rfl (by omega) (Nat.le_of_ble_eq_true rfl) (Nat.le_of_ble_eq_true rfl) (k_passOn (n := n) (B := B) (q := q + k) (pp := pp) (more := 1) (L := L) (X := L) (N := pcI B N k) hSE hvE (by omega) hP.2.1 h5 h6 hLp hP.2.2.2.2.2.1 hP.2.2.2.2.2.2.1 hP.2.2.2.2.2.2.2.1 hP.2.2.2.2.2.2.2.2 hpk.1 (pc_0 hB1 hpo hN0 k hk6) (hpk.2.2.2.2.2.1.trans hN6) hB1 hB2 hpp (fun V J p3 o3 t3 c3 hA2 => ?_))
      refine ⟨rfl, fun _ => ?_⟩
      refine r_iincN (pc := 94) (i := 4) (c := ((k + 1 : Nat) : Int)) (lv' := [_, _, _, _, _]) dX10_roundsTillAlike_94 rfl (by decide) (by unfold w32; omega) rfl ?_
      refine r_goto (pc := 97) (tgt := 19) dX10_roundsTillAlike_97 rfl ?_
      have hz := hP.1.2
      rw [show 7 - k = (6 - k) + 1 by omega, rdS_succ, if_pos (by omega)] at hz
      rw [show min 1 (pp - (q + k)) = 1 by omega, pc_1] at hA2
      exact ih (k + 1) (V, J, p3, o3, t3, c3) ⟨⟨by omega, by rw [show 7 - (k + 1) = 6 - k by omega]; exact hz⟩, fun j hj => (congrFun (hA2.fr hSE (by omega) (by omega) (by omega)) j).trans (hP.2.1 j hj), hP.2.2.tr (by omega) (hA2.wd (Or.inl (by omega)) (Or.inl (by omega)))⟩ (by omega)
    · refine r_bipush (pc := 86) dX10_roundsTillAlike_86 rfl (in32_of rfl) ?_
      have hz := hP.1.2
      rw [show 7 - k = (6 - k) + 1 by omega, rdS_succ, if_neg (by omega)] at hz
      have hv_ : rdV B pp q N w = -2 := by unfold rdV; rw [← hz, hP0.nn, if_neg (by omega)]
      exact r_iret (pc := 88) dX10_roundsTillAlike_88 trivial (by have h := hq _ _ _ _ _ _ hP.2.2.P; rw [hv_] at h; exact h)
  · have c36 := Decidable.of_not_not c36
    refine r_iload_n (pc := 39) (i := 3) dX10_roundsTillAlike_39 rfl rfl ?_
    refine r_if_ne (pc := 40) (tgt := 48) dX10_roundsTillAlike_40 rfl (fun c40 => ?_) (fun c40 => ?_)
    · refine r_aload_n (pc := 48) (i := 0) dX10_roundsTillAlike_48 rfl rfl ?_
      refine r_getfr (pc := 49) (b := s) cks dX10_roundsTillAlike_49 fl_X10_12 rfl hvE.1.1 hvE.1.2.1 hvE.1.2.2.1 ?_
      refine r_getfr (pc := 52) (b := s + 7) cks dX10_roundsTillAlike_52 fl_X10_72 rfl (kS0 hSE) (ltS0 hSE) (rS0_12 hSE) ?_
      refine r_getfi (pc := 55) cks dX10_roundsTillAlike_55 fl_X10_76 rfl (kS7 hSE) (ltS (k := 7) hSE (by omega)) ?_
      refine r_top (b := (pcI B N k) 3) (hP.2.2.2.2.2.1.2.2.2.2.1.1) ?_
      refine r_aload_n (pc := 58) (i := 1) dX10_roundsTillAlike_58 rfl rfl ?_
      refine r_getfr (pc := 59) (b := s1 + 7) cks dX10_roundsTillAlike_59 fl_X10_72 rfl (kS0 hS1E) (ltS0 hS1E) (rS0_12 hS1E) ?_
      refine r_getfi (pc := 62) cks dX10_roundsTillAlike_62 fl_X10_76 rfl (kS7 hS1E) (ltS (k := 7) hS1E (by omega)) ?_
      refine r_top (b := N 3) ((congrFun (hP.2.2.fr hS (by omega) (by omega) (by omega)) 0).trans hst.2.2.2.2.1.1) ?_
      refine r_isubN (pc := 65) (c := (w32 ((pcI B N k) 3 - N 3))) dX10_roundsTillAlike_65 rfl ?_
      have hz := hP.1.2
      rw [show 7 - k = (6 - k) + 1 by omega, rdS_succ, if_neg (by omega)] at hz
      have hv_ : rdV B pp q N w = w32 ((pcI B N k) 3 - N 3) := by unfold rdV; rw [← hz, hP0.nn, if_pos (by omega), if_neg (by omega)]
      exact r_iret (pc := 66) dX10_roundsTillAlike_66 trivial (by have h := hq _ _ _ _ _ _ hP.2.2.P; rw [hv_] at h; exact h)
    · have c40 := Decidable.of_not_not c40
      refine r_iload (pc := 43) (i := 4) dX10_roundsTillAlike_43 rfl ?_
      refine r_goto (pc := 45) (tgt := 66) dX10_roundsTillAlike_45 rfl ?_
      have hz := hP.1.2
      rw [show 7 - k = (6 - k) + 1 by omega, rdS_succ, if_neg (by omega)] at hz
      have hv_ : rdV B pp q N w = ((k : Nat) : Int) := by unfold rdV; rw [← hz, hP0.nn, if_pos (by omega), if_pos (by omega)]
      exact r_iret (pc := 66) dX10_roundsTillAlike_66 trivial (by have h := hq _ _ _ _ _ _ hP.2.2.P; rw [hv_] at h; exact h)
end C47
