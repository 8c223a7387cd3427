section C50
variable {G : Gl} {d : Nat} {T : Sh} {I : Mi} {N : Nat → Int} {Q : Option AV → Sh → Mi → Prop}
theorem gr_st {L : Nat → Int} {sd : Int} {N : Nat → Int} : (gaR L sd N).2 0 = 5 ↔ ¬ (gaR L sd N).1 = 0 := by
  have h := ck_st (L := L) (sd := sd) (N := N)
  unfold gaR
  by_cases g : gaC L sd N = 0
  · rw [if_pos g]
    have h6 := h.1.mpr g
    exact ⟨fun e => absurd (show ga4 L sd N 0 = 5 from e) (by omega), fun e => absurd rfl e⟩
  · rw [if_neg g]
    by_cases g2 : gaL L sd N < 1
    · rw [if_pos g2]
      exact ⟨fun e => absurd (show un (ga4 L sd N) 0 6 0 = 5 from e) (by rw [un_at]; decide), fun e => absurd rfl e⟩
    · rw [if_neg g2]
      exact ⟨fun _ => (by decide : ¬ (1 : Int) = 0), fun _ => by show shZ (ga4 L sd N) (nN (ga4 L sd N)) (gaL L sd N).toNat 0 = 5; unfold shZ; exact un_at⟩
theorem alF_01 (M : Nat → Int) : alF M = 0 ∨ alF M = 1 := by
  unfold alF
  have key : ∀ u k, lakS M u k = 0 ∨ lakS M u k = 1 := by
    intro u
    induction u with
    | zero => intro k; exact Or.inr rfl
    | succ u ih =>
      intro k
      show (if M (k + 3390) = M (k + 3646) then lakS M u (k + 1) else 0) = 0 ∨ (if M (k + 3390) = M (k + 3646) then lakS M u (k + 1) else 0) = 1
      split
      · exact ih _
      · exact Or.inl rfl
  exact key _ _
theorem k_seeds {v u a m mm : Nat} {w : Int} {L : Nat → Int} {s p o t c : Nat} (hS : ShS T s p o t c) (hv : TrO T v s u a m) {u1 : Nat} (hu1 : ShP T u1) (hd : 7 ≤ d) (hdu : u1 + 2 ≤ v ∨ v + 25 ≤ u1) (hL1 : ∀ k, k < 9 → I (u1 + 1) k = L k) (hLp : plOk L) (hmm : mm ≤ 20) (hq : ∀ (U : Sh) (K : Mi) (p2 o2 t2 c2 : Nat), TrP T U I K s p o t c p2 o2 t2 c2 u 9 → Q (some (aI (sdV L N (mm : Int) w))) U K) : EvE G mX10_overSeeds d [aR v, aR u1, aI ((mm : Nat) : Int), aI w] T I Q := by
  have hu := hv.2.1.1
  have ha := hv.2.1.2.1
  have hm := hv.2.1.2.2
  have hvn := hv.2.2
  have hm0 := hm.1
  have hs00 := hS.1
  have hu10 := hu1.1
  have hpl := hLp
  unfold plOk at hpl
  refine EvE.mk (lv0 := [some (aR v), some (aR u1), some (aI ((mm : Nat) : Int)), some (aI w), none, none, none, none]) (Nat.le_of_ble_eq_true rfl) (by decide +kernel) rfl ?_
  refine r_iconst (pc := 0) dX10_overSeeds_0 (in32_of rfl) ?_
  refine r_istore (pc := 1) (i := 4) (lv' := [_, _, _, _, _, _, _, _]) dX10_overSeeds_1 (by decide) rfl ?_
  refine r_iconst (pc := 3) dX10_overSeeds_3 (in32_of rfl) ?_
  refine r_istore (pc := 4) (i := 5) (lv' := [_, _, _, _, _, _, _, _]) dX10_overSeeds_4 (by decide) rfl ?_
  refine r_iconst (pc := 6) dX10_overSeeds_6 (in32_of rfl) ?_
  refine r_istore (pc := 7) (i := 6) (lv' := [_, _, _, _, _, _, _, _]) dX10_overSeeds_7 (by decide) rfl ?_
  refine r_aload_n (pc := 9) (i := 0) dX10_overSeeds_9 rfl rfl ?_
  refine r_getfr (pc := 10) (b := u) cks dX10_overSeeds_10 fl_X10_21 rfl hv.1.1 hv.1.2.1 hv.1.2.2.2.1 ?_
  refine r_aload_n (pc := 13) (i := 1) dX10_overSeeds_13 rfl rfl ?_
  refine r_callV0 (pc := 14) (d - 1) [aR u1] dX10_overSeeds_14 (CV.mk2 mk_X6_takeFrom lk_X10_43) (RC.of (ltP0 hu) (kP0 hu) (by decide) rfl) rfl rfl (by omega) (Nat.le_of_ble_eq_true rfl) (Nat.le_of_ble_eq_true rfl) (k_planFrom hu hu1 (by omega) (by omega) ?_)
  refine ⟨rfl, fun _ => ?_⟩
  refine r_mem (I2 := sr I (u + 1) (cpyR (I (u1 + 1)) 0 (I (u + 1)) 0 9)) ((congr (congrArg (fun v0_ v1_ => (sr I (u + 1) (cpyR v0_ 0 v1_ 0 9))) (show I (u1 + 1) = I (u1 + 1) from rfl)) (show I (u + 1) = I (u + 1) from rfl)).trans (rfl)) ?_
  obtain ⟨K0, hK0⟩ : ∃ K0, K0 = sr I (u + 1) (cpyR (I (u1 + 1)) 0 (I (u + 1)) 0 9) := ⟨_, rfl⟩
  rw [← hK0]
  have hT0 : TrP T T I K0 s p o t c p o t c u 9 := by rw [hK0]; exact (TrP.id hS).row ⟨by omega, by omega⟩
  have hrow0 : ∀ j, j < 9 → j ≠ 1 → K0 (u + 1) j = L j := fun j hj _ => by rw [hK0, sr_row, cpyR_in (by omega), show 0 + (j - 0) = j by omega]; exact hL1 j hj
  refine r_iconst (pc := 17) dX10_overSeeds_17 (in32_of rfl) ?_
  refine r_istore (pc := 18) (i := 7) (lv' := [_, _, _, _, _, _, _, _]) dX10_overSeeds_18 (by decide) rfl ?_
  refine loop2 (fun (k : Nat) (E : WE) => k ≤ mm ∧ (∀ j, j < 9 → j ≠ 1 → E.2.1 (u + 1) j = L j) ∧ TrP T E.1 I E.2.1 s p o t c E.2.2.1 E.2.2.2.1 E.2.2.2.2.1 E.2.2.2.2.2 u 9) (fun (k : Nat) (E : WE) => mm - k) (fun (k : Nat) (E : WE) => [some (aR v), some (aR u1), some (aI ((mm : Nat) : Int)), some (aI w), some (aI ((seT L N k).1)), some (aI ((seT L N k).2.1)), some (aI ((seT L N k).2.2)), some (aI ((k : Nat) : Int))]) (fun (k : Nat) (E : WE) => E.1) (fun (k : Nat) (E : WE) => E.2.1) ?_ 0 (T, K0, p, o, t, c) ⟨Nat.zero_le _, hrow0, hT0⟩
  intro k E hP ih
  have hP : k ≤ mm ∧ (∀ j, j < 9 → j ≠ 1 → E.2.1 (u + 1) j = L j) ∧ TrP T E.1 I E.2.1 s p o t c E.2.2.1 E.2.2.2.1 E.2.2.2.2.1 E.2.2.2.2.2 u 9 := hP
  refine (?_ : Ev G mX10_overSeeds d 20 [some (aR v), some (aR u1), some (aI ((mm : Nat) : Int)), some (aI w), some (aI ((seT L N k).1)), some (aI ((seT L N k).2.1)), some (aI ((seT L N k).2.2)), some (aI ((k : Nat) : Int))] [] E.1 E.2.1 Q)
  have hSE := hP.2.2.1
  have hvE := TrO_ext hv hP.2.2.2.1.1
  have huE := hvE.2.1.1
  have haE := hvE.2.1.2.1
  have hmE := hvE.2.1.2.2
  have hu1E := ShP_ext hu1 hP.2.2.2.1.1 (by omega)
  have hsr := seT_rng hLp N k (by omega)
  refine r_iload (pc := 20) (i := 7) dX10_overSeeds_20 rfl ?_
  refine r_iload_n (pc := 22) (i := 2) dX10_overSeeds_22 rfl rfl ?_
  refine r_icmp_ge (pc := 23) (tgt := 96) dX10_overSeeds_23 rfl (fun c23 => ?_) (fun c23 => ?_)
  · refine r_iload_n (pc := 96) (i := 3) dX10_overSeeds_96 rfl rfl ?_
    refine r_if_ne (pc := 97) (tgt := 105) dX10_overSeeds_97 rfl (fun c97 => ?_) (fun c97 => ?_)
    · refine r_iload_n (pc := 105) (i := 3) dX10_overSeeds_105 rfl rfl ?_
      refine r_iconst (pc := 106) dX10_overSeeds_106 (in32_of rfl) ?_
      refine r_icmp_ne (pc := 107) (tgt := 115) dX10_overSeeds_107 rfl (fun c107 => ?_) (fun c107 => ?_)
      · refine r_iload (pc := 115) (i := 6) dX10_overSeeds_115 rfl ?_
        have hkm : k = mm := by omega
        subst hkm
        have hv_ : sdV L N ((k : Nat) : Int) w = (seT L N k).2.2 := by unfold sdV; rw [if_neg (by omega), if_neg (by omega), Int.toNat_natCast]
        exact r_iret (pc := 117) dX10_overSeeds_117 trivial (by have h := hq _ _ _ _ _ _ hP.2.2; rw [hv_] at h; exact h)
      · have c107 := Decidable.of_not_not c107
        refine r_iload (pc := 110) (i := 5) dX10_overSeeds_110 rfl ?_
        refine r_goto (pc := 112) (tgt := 117) dX10_overSeeds_112 rfl ?_
        have hkm : k = mm := by omega
        subst hkm
        have hv_ : sdV L N ((k : Nat) : Int) w = (seT L N k).2.1 := by unfold sdV; rw [if_neg (by omega), if_pos (by omega), Int.toNat_natCast]
        exact r_iret (pc := 117) dX10_overSeeds_117 trivial (by have h := hq _ _ _ _ _ _ hP.2.2; rw [hv_] at h; exact h)
    · have c97 := Decidable.of_not_not c97
      refine r_iload (pc := 100) (i := 4) dX10_overSeeds_100 rfl ?_
      refine r_goto (pc := 102) (tgt := 117) dX10_overSeeds_102 rfl ?_
      have hkm : k = mm := by omega
      subst hkm
      have hv_ : sdV L N ((k : Nat) : Int) w = (seT L N k).1 := by unfold sdV; rw [if_pos (by omega), Int.toNat_natCast]
      exact r_iret (pc := 117) dX10_overSeeds_117 trivial (by have h := hq _ _ _ _ _ _ hP.2.2; rw [hv_] at h; exact h)
  · refine r_aload_n (pc := 26) (i := 0) dX10_overSeeds_26 rfl rfl ?_
    refine r_aload_n (pc := 27) (i := 1) dX10_overSeeds_27 rfl rfl ?_
    refine r_iconst (pc := 28) dX10_overSeeds_28 (in32_of rfl) ?_
    refine r_callV1 (pc := 29) (d - 1) [aI 1] dX10_overSeeds_29 (CV.mk2 mk_X6_number lk_X10_54) (RC.of (ltP0 hu1E) (kP0 hu1E) (by decide) rfl) rfl rfl (by omega) (Nat.le_of_ble_eq_true rfl) (Nat.le_of_ble_eq_true rfl) (k_num (L := L) hu1E 1 (by decide) (fun j hj => (congrFun (hP.2.2.fr hS (by omega) (by omega) (by omega)) j).trans (hL1 j hj)) ?_)
    refine ⟨_, rfl, fun _ => ?_⟩
    refine r_iload (pc := 32) (i := 7) dX10_overSeeds_32 rfl ?_
    refine r_iaddN (pc := 34) (c := (L 1 + k)) dX10_overSeeds_34 (by unfold w32; omega) ?_
    refine r_callV0 (pc := 35) (d - 1) [aI (L 1 + k)] dX10_overSeeds_35 (CV.mk2 mk_X10_runWhole lk_X10_92) (RC.of hvE.1.2.1 hvE.1.1 (by decide) rfl) rfl rfl (by omega) (Nat.le_of_ble_eq_true rfl) (Nat.le_of_ble_eq_true rfl) (k_runWhole (N := seM L N k) (sd := L 1 + k) (L := L) hSE hvE (by omega) hLp hP.2.1 (by omega) (by omega) (fun U K p2 o2 t2 c2 n hA hrow2 => ?_))
    refine ⟨rfl, fun _ => ?_⟩
    have hSU := hA.1
    have hvU := TrO_ext hvE hA.2.1.1
    have huU := hvU.2.1.1
    have haU := hvU.2.1.2.1
    have hmU := hvU.2.1.2.2
    have hg6 := ok_6.mp (hA.2.2.2.2.2.1.1 6)
    refine r_aload_n (pc := 38) (i := 0) dX10_overSeeds_38 rfl rfl ?_
    refine r_getfr (pc := 39) (b := s) cks dX10_overSeeds_39 fl_X10_12 rfl hvU.1.1 hvU.1.2.1 hvU.1.2.2.1 ?_
    refine r_getfi (pc := 42) cks dX10_overSeeds_42 fl_X10_95 rfl (kS0 hSU) (ltS0 hSU) ?_
    refine r_top (b := (gaR L (L 1 + k) (seM L N k)).2 0) (hA.2.2.2.1.1.1) ?_
    refine r_iconst (pc := 45) dX10_overSeeds_45 (in32_of rfl) ?_
    refine r_icmp_ne (pc := 46) (tgt := 90) dX10_overSeeds_46 rfl (fun c46 => ?_) (fun c46 => ?_)
    · refine r_iincN (pc := 90) (i := 7) (c := ((k + 1 : Nat) : Int)) (lv' := [_, _, _, _, _, _, _, _]) dX10_overSeeds_90 rfl (by decide) (by unfold w32; omega) rfl ?_
      refine r_goto (pc := 93) (tgt := 20) dX10_overSeeds_93 rfl ?_
      have hz : seT L N (k + 1) = seT L N k := by rw [seT_succ, if_pos (Decidable.of_not_not (fun h => c46 (gr_st.mpr h)))]
      exact Ev.re (by rw [hz]) rfl (ih (k + 1) (U, K, p2, o2, t2, c2) ⟨by omega, hrow2, hP.2.2.tr hA.P⟩ (by omega))
    · have c46 := Decidable.of_not_not c46
      refine r_iincN (pc := 49) (i := 4) (c := (((seT L N k).1) + 1)) (lv' := [_, _, _, _, _, _, _, _]) dX10_overSeeds_49 rfl (by decide) (by unfold w32; omega) rfl ?_
      refine r_iload (pc := 52) (i := 5) dX10_overSeeds_52 rfl ?_
      refine r_aload_n (pc := 54) (i := 0) dX10_overSeeds_54 rfl rfl ?_
      refine r_getfr (pc := 55) (b := s) cks dX10_overSeeds_55 fl_X10_12 rfl hvU.1.1 hvU.1.2.1 hvU.1.2.2.1 ?_
      refine r_getfr (pc := 58) (b := s + 11) cks dX10_overSeeds_58 fl_X10_98 rfl (kS0 hSU) (ltS0 hSU) (rS0_13 hSU) ?_
      refine r_callV1 (pc := 61) (d - 1) [] dX10_overSeeds_61 (CV.mk2 mk_X1_areUnlike lk_X10_102) (RC.of (ltS (k := 11) hSU (by omega)) (kS11 hSU) (by decide) rfl) rfl rfl (by omega) (Nat.le_of_ble_eq_true rfl) (Nat.le_of_ble_eq_true rfl) (k_finUnlike (l := ((gaR L (L 1 + k) (seM L N k)).2 6).toNat) (N := (gaR L (L 1 + k) (seM L N k)).2) hSU (hA.2.2.2.1.2.2.2.2.2.1.trans (by omega)) (by omega) hA.2.2.2.1.2.2.2.2.2.2.2.2.2.1 ?_)
      refine ⟨_, rfl, fun _ => ?_⟩
      refine r_if_eq (pc := 64) (tgt := 71) dX10_overSeeds_64 rfl (fun c64 => ?_) (fun c64 => ?_)
      · refine r_iconst (pc := 71) dX10_overSeeds_71 (in32_of rfl) ?_
        refine r_iaddN (pc := 72) (c := ((seT L N k).2.1)) dX10_overSeeds_72 (by unfold w32; omega) ?_
        refine r_istore (pc := 73) (i := 5) (lv' := [_, _, _, _, _, _, _, _]) dX10_overSeeds_73 (by decide) rfl ?_
        refine r_iload (pc := 75) (i := 6) dX10_overSeeds_75 rfl ?_
        refine r_aload_n (pc := 77) (i := 0) dX10_overSeeds_77 rfl rfl ?_
        refine r_getfr (pc := 78) (b := s) cks dX10_overSeeds_78 fl_X10_12 rfl hvU.1.1 hvU.1.2.1 hvU.1.2.2.1 ?_
        refine r_getfr (pc := 81) (b := s + 11) cks dX10_overSeeds_81 fl_X10_98 rfl (kS0 hSU) (ltS0 hSU) (rS0_13 hSU) ?_
        refine r_getfi (pc := 84) cks dX10_overSeeds_84 fl_X10_108 rfl (kS11 hSU) (ltS (k := 11) hSU (by omega)) ?_
        refine r_top (b := (gaR L (L 1 + k) (seM L N k)).2 6) (hA.2.2.2.1.2.2.2.2.2.1) ?_
        refine r_iaddN (pc := 87) (c := (((seT L N k).2.2) + ((gaR L (L 1 + k) (seM L N k)).2 6))) dX10_overSeeds_87 (by unfold w32; omega) ?_
        refine r_istore (pc := 88) (i := 6) (lv' := [_, _, _, _, _, _, _, _]) dX10_overSeeds_88 (by decide) rfl ?_
        refine r_iincN (pc := 90) (i := 7) (c := ((k + 1 : Nat) : Int)) (lv' := [_, _, _, _, _, _, _, _]) dX10_overSeeds_90 rfl (by decide) (by unfold w32; omega) rfl ?_
        refine r_goto (pc := 93) (tgt := 20) dX10_overSeeds_93 rfl ?_
        have hal := alF_01 (gaR L (L 1 + k) (seM L N k)).2
        have hz : seT L N (k + 1) = ((seT L N k).1 + 1, (seT L N k).2.1 + 0, (seT L N k).2.2 + (gaR L (L 1 + k) (seM L N k)).2 6) := by rw [seT_succ, if_neg (gr_st.mp (by omega)), if_neg (show ¬ alF (seM L N (k + 1)) = 0 by show ¬ alF (gaR L (L 1 + k) (seM L N k)).2 = 0; unfold alF; omega)]; rfl
        exact Ev.re (by rw [hz]; rw [Int.add_zero]) rfl (ih (k + 1) (U, K, p2, o2, t2, c2) ⟨by omega, hrow2, hP.2.2.tr hA.P⟩ (by omega))
      · refine r_iconst (pc := 67) dX10_overSeeds_67 (in32_of rfl) ?_
        refine r_goto (pc := 68) (tgt := 72) dX10_overSeeds_68 rfl ?_
        refine r_iaddN (pc := 72) (c := (((seT L N k).2.1) + 1)) dX10_overSeeds_72 (by unfold w32; omega) ?_
        refine r_istore (pc := 73) (i := 5) (lv' := [_, _, _, _, _, _, _, _]) dX10_overSeeds_73 (by decide) rfl ?_
        refine r_iload (pc := 75) (i := 6) dX10_overSeeds_75 rfl ?_
        refine r_aload_n (pc := 77) (i := 0) dX10_overSeeds_77 rfl rfl ?_
        refine r_getfr (pc := 78) (b := s) cks dX10_overSeeds_78 fl_X10_12 rfl hvU.1.1 hvU.1.2.1 hvU.1.2.2.1 ?_
        refine r_getfr (pc := 81) (b := s + 11) cks dX10_overSeeds_81 fl_X10_98 rfl (kS0 hSU) (ltS0 hSU) (rS0_13 hSU) ?_
        refine r_getfi (pc := 84) cks dX10_overSeeds_84 fl_X10_108 rfl (kS11 hSU) (ltS (k := 11) hSU (by omega)) ?_
        refine r_top (b := (gaR L (L 1 + k) (seM L N k)).2 6) (hA.2.2.2.1.2.2.2.2.2.1) ?_
        refine r_iaddN (pc := 87) (c := (((seT L N k).2.2) + ((gaR L (L 1 + k) (seM L N k)).2 6))) dX10_overSeeds_87 (by unfold w32; omega) ?_
        refine r_istore (pc := 88) (i := 6) (lv' := [_, _, _, _, _, _, _, _]) dX10_overSeeds_88 (by decide) rfl ?_
        refine r_iincN (pc := 90) (i := 7) (c := ((k + 1 : Nat) : Int)) (lv' := [_, _, _, _, _, _, _, _]) dX10_overSeeds_90 rfl (by decide) (by unfold w32; omega) rfl ?_
        refine r_goto (pc := 93) (tgt := 20) dX10_overSeeds_93 rfl ?_
        have hal := alF_01 (gaR L (L 1 + k) (seM L N k)).2
        have hz : seT L N (k + 1) = ((seT L N k).1 + 1, (seT L N k).2.1 + 1, (seT L N k).2.2 + (gaR L (L 1 + k) (seM L N k)).2 6) := by rw [seT_succ, if_neg (gr_st.mp (by omega)), if_pos (show alF (seM L N (k + 1)) = 0 by show alF (gaR L (L 1 + k) (seM L N k)).2 = 0; unfold alF at hal ⊢; omega)]; rfl
        exact Ev.re (by rw [hz]) rfl (ih (k + 1) (U, K, p2, o2, t2, c2) ⟨by omega, hrow2, hP.2.2.tr hA.P⟩ (by omega))
theorem k_noise {v u a m mm : Nat} {L : Nat → Int} {s p o t c : Nat} (hS : ShS T s p o t c) (hv : TrO T v s u a m) {u1 : Nat} (hu1 : ShP T u1) (hd : 7 ≤ d) (hdu : u1 + 2 ≤ v ∨ v + 25 ≤ u1) (hL1 : ∀ k, k < 9 → I (u1 + 1) k = L k) (hLp : plOk L) (hmm : mm ≤ 20) (hq : ∀ (U : Sh) (K : Mi) (p2 o2 t2 c2 : Nat), TrP T U I K s p o t c p2 o2 t2 c2 u 9 → Q (some (aI (nzF L mm 51 0 N))) U K) : EvE G mX10_greatestNoise d [aR v, aR u1, aI ((mm : Nat) : Int)] T I Q := by
  have hu := hv.2.1.1
  have ha := hv.2.1.2.1
  have hm := hv.2.1.2.2
  have hvn := hv.2.2
  have hm0 := hm.1
  have hs00 := hS.1
  have hu10 := hu1.1
  have hpl := hLp
  unfold plOk at hpl
  refine EvE.mk (lv0 := [some (aR v), some (aR u1), some (aI ((mm : Nat) : Int)), none, none, none]) (Nat.le_of_ble_eq_true rfl) (by decide +kernel) rfl ?_
  refine r_aload_n (pc := 0) (i := 0) dX10_greatestNoise_0 rfl rfl ?_
  refine r_getfr (pc := 1) (b := u) cks dX10_greatestNoise_1 fl_X10_21 rfl hv.1.1 hv.1.2.1 hv.1.2.2.2.1 ?_
  refine r_aload_n (pc := 4) (i := 1) dX10_greatestNoise_4 rfl rfl ?_
  refine r_callV0 (pc := 5) (d - 1) [aR u1] dX10_greatestNoise_5 (CV.mk2 mk_X6_takeFrom lk_X10_43) (RC.of (ltP0 hu) (kP0 hu) (by decide) rfl) rfl rfl (by omega) (Nat.le_of_ble_eq_true rfl) (Nat.le_of_ble_eq_true rfl) (k_planFrom hu hu1 (by omega) (by omega) ?_)
  refine ⟨rfl, fun _ => ?_⟩
  refine r_mem (I2 := sr I (u + 1) (cpyR (I (u1 + 1)) 0 (I (u + 1)) 0 9)) ((congr (congrArg (fun v0_ v1_ => (sr I (u + 1) (cpyR v0_ 0 v1_ 0 9))) (show I (u1 + 1) = I (u1 + 1) from rfl)) (show I (u + 1) = I (u + 1) from rfl)).trans (rfl)) ?_
  obtain ⟨K0, hK0⟩ : ∃ K0, K0 = sr I (u + 1) (cpyR (I (u1 + 1)) 0 (I (u + 1)) 0 9) := ⟨_, rfl⟩
  rw [← hK0]
  have hT0 : TrP T T I K0 s p o t c p o t c u 9 := by rw [hK0]; exact (TrP.id hS).row ⟨by omega, by omega⟩
  have hrow0 : ∀ j, j < 9 → j ≠ 1 ∧ j ≠ 2 → K0 (u + 1) j = L j := fun j hj _ => by rw [hK0, sr_row, cpyR_in (by omega), show 0 + (j - 0) = j by omega]; exact hL1 j hj
  refine r_getsA (pc := 8) (e := 1) (by decide) dX10_greatestNoise_8 sl_X10_85 ?_
  refine r_iconst (pc := 11) dX10_greatestNoise_11 (in32_of rfl) ?_
  refine r_xload (pc := 12) (e := 2) (x := 500) (by decide) dX10_greatestNoise_12 (by decide) (show (2 : Int) < ((9 : Nat) : Int) by decide) rfl (in32_of rfl) ?_
  refine r_istore_n (pc := 13) (i := 3) (lv' := [_, _, _, _, _, _]) dX10_greatestNoise_13 rfl (by decide) rfl ?_
  refine loop3 (fun (j : Nat) (E : WE) (X0 : Nat → Int) => (j ≤ 51 ∧ nzF L mm (51 - j) j X0 = nzF L mm 51 0 N) ∧ (∀ i, i < 9 → i ≠ 1 ∧ i ≠ 2 → E.2.1 (u + 1) i = L i) ∧ TrP T E.1 I E.2.1 s p o t c E.2.2.1 E.2.2.2.1 E.2.2.2.2.1 E.2.2.2.2.2 u 9) (fun (j : Nat) (E : WE) (X0 : Nat → Int) => 51 - j) (fun (j : Nat) (E : WE) (X0 : Nat → Int) => [some (aR v), some (aR u1), some (aI ((mm : Nat) : Int)), some (aI (-10 * ((j : Nat) : Int) + 500)), none, none]) (fun (j : Nat) (E : WE) (X0 : Nat → Int) => E.1) (fun (j : Nat) (E : WE) (X0 : Nat → Int) => E.2.1) ?_ 0 (T, K0, p, o, t, c) N ⟨⟨by decide, rfl⟩, hrow0, hT0⟩
  intro j E X0 hP ih
  have hP : (j ≤ 51 ∧ nzF L mm (51 - j) j X0 = nzF L mm 51 0 N) ∧ (∀ i, i < 9 → i ≠ 1 ∧ i ≠ 2 → E.2.1 (u + 1) i = L i) ∧ TrP T E.1 I E.2.1 s p o t c E.2.2.1 E.2.2.2.1 E.2.2.2.2.1 E.2.2.2.2.2 u 9 := hP
  refine (?_ : Ev G mX10_greatestNoise d 14 [some (aR v), some (aR u1), some (aI ((mm : Nat) : Int)), some (aI (-10 * ((j : Nat) : Int) + 500)), none, none] [] E.1 E.2.1 Q)
  have hSE := hP.2.2.1
  have hvE := TrO_ext hv hP.2.2.2.1.1
  have huE := hvE.2.1.1
  have haE := hvE.2.1.2.1
  have hmE := hvE.2.1.2.2
  have hu1E := ShP_ext hu1 hP.2.2.2.1.1 (by omega)
  refine r_iload_n (pc := 14) (i := 3) dX10_greatestNoise_14 rfl rfl ?_
  refine r_getsA (pc := 15) (e := 0) (by decide) dX10_greatestNoise_15 sl_X10_81 ?_
  refine r_iconst (pc := 18) dX10_greatestNoise_18 (in32_of rfl) ?_
  refine r_xload (pc := 19) (e := 1) (x := 0) (by decide) dX10_greatestNoise_19 (by decide) (show (2 : Int) < ((9 : Nat) : Int) by decide) rfl (in32_of rfl) ?_
  refine r_icmp_lt (pc := 20) (tgt := 117) dX10_greatestNoise_20 rfl (fun c20 => ?_) (fun c20 => ?_)
  · refine r_bipush (pc := 117) dX10_greatestNoise_117 rfl (in32_of rfl) ?_
    have hz := hP.1.2
    rw [show 51 - j = 0 by omega, show nzF L mm 0 j X0 = -2 from rfl] at hz
    exact r_iret (pc := 119) dX10_greatestNoise_119 trivial (by have h := hq _ _ _ _ _ _ hP.2.2; rw [← hz] at h; exact h)
  · refine r_aload_n (pc := 23) (i := 0) dX10_greatestNoise_23 rfl rfl ?_
    refine r_getfr (pc := 24) (b := u) cks dX10_greatestNoise_24 fl_X10_21 rfl hvE.1.1 hvE.1.2.1 hvE.1.2.2.2.1 ?_
    refine r_iconst (pc := 27) dX10_greatestNoise_27 (in32_of rfl) ?_
    refine r_iload_n (pc := 28) (i := 3) dX10_greatestNoise_28 rfl rfl ?_
    refine r_callV0 (pc := 29) (d - 1) [aI 2, aI (-10 * ((j : Nat) : Int) + 500)] dX10_greatestNoise_29 (CV.mk2 mk_X6_put lk_X10_88) (RC.of (ltP0 huE) (kP0 huE) (by decide) rfl) rfl rfl (by omega) (Nat.le_of_ble_eq_true rfl) (Nat.le_of_ble_eq_true rfl) (k_put (i := 2) (x := (-10 * ((j : Nat) : Int) + 500)) huE (by decide) ?_)
    refine ⟨rfl, fun _ => ?_⟩
    refine r_mem (I2 := sr E.2.1 (u + 1) (un (E.2.1 (u + 1)) 2 (-10 * ((j : Nat) : Int) + 500))) ((congrArg (fun v0_ => (sr E.2.1 (u + 1) (un v0_ 2 (-10 * ((j : Nat) : Int) + 500)))) (show E.2.1 (u + 1) = E.2.1 (u + 1) from rfl)).trans (rfl)) ?_
    obtain ⟨K1, hK1⟩ : ∃ K1, K1 = sr E.2.1 (u + 1) (un (E.2.1 (u + 1)) 2 (-10 * ((j : Nat) : Int) + 500)) := ⟨_, rfl⟩
    rw [← hK1]
    have hT1 : TrP E.1 E.1 E.2.1 K1 s E.2.2.1 E.2.2.2.1 E.2.2.2.2.1 E.2.2.2.2.2 E.2.2.1 E.2.2.2.1 E.2.2.2.2.1 E.2.2.2.2.2 u 9 := by rw [hK1]; exact (TrP.id hSE).row ⟨by omega, by omega⟩
    have hrow1 : ∀ i, i < 9 → i ≠ 1 → K1 (u + 1) i = nzP L j i := fun i hi i1 => by rw [hK1, sr_row]; unfold nzP; by_cases g : i = 2; (rw [g, un_at, un_at]; omega); rw [un_ne g, un_ne g]; exact hP.2.1 i hi ⟨i1, g⟩
    have hLz := nzP_ok hLp (j := j) (by omega)
    have hz1 := nzP_1 L j
    refine r_iconst (pc := 32) dX10_greatestNoise_32 (in32_of rfl) ?_
    refine r_istore (pc := 33) (i := 4) (lv' := [_, _, _, _, _, _]) dX10_greatestNoise_33 (by decide) rfl ?_
    refine r_iconst (pc := 35) dX10_greatestNoise_35 (in32_of rfl) ?_
    refine r_istore (pc := 36) (i := 5) (lv' := [_, _, _, _, _, _]) dX10_greatestNoise_36 (by decide) rfl ?_
    refine loop4 (fun (k : Nat) (al : Nat) (E2 : WE) (M : Nat → Int) => k ≤ mm ∧ (∀ i, i < 9 → i ≠ 1 → E2.2.1 (u + 1) i = nzP L j i) ∧ TrP E.1 E2.1 E.2.1 E2.2.1 s E.2.2.1 E.2.2.2.1 E.2.2.2.2.1 E.2.2.2.2.2 E2.2.2.1 E2.2.2.2.1 E2.2.2.2.2.1 E2.2.2.2.2.2 u 9 ∧ ((al = k ∧ igF (nzP L j) (mm - k) k M = igF (nzP L j) mm 0 X0) ∨ (al + 1 = k ∧ igF (nzP L j) mm 0 X0 = (0, M)))) (fun (k : Nat) (al : Nat) (E2 : WE) (M : Nat → Int) => mm - k) (fun (k : Nat) (al : Nat) (E2 : WE) (M : Nat → Int) => [some (aR v), some (aR u1), some (aI ((mm : Nat) : Int)), some (aI (-10 * ((j : Nat) : Int) + 500)), some (aI ((al : Nat) : Int)), some (aI ((k : Nat) : Int))]) (fun (k : Nat) (al : Nat) (E2 : WE) (M : Nat → Int) => E2.1) (fun (k : Nat) (al : Nat) (E2 : WE) (M : Nat → Int) => E2.2.1) ?_ 0 0 (E.1, K1, E.2.2) X0 ⟨Nat.zero_le _, hrow1, hT1, Or.inl ⟨rfl, by rw [Nat.sub_zero]⟩⟩
    intro k al E2 M hP2 ih2
    have hP2 : k ≤ mm ∧ (∀ i, i < 9 → i ≠ 1 → E2.2.1 (u + 1) i = nzP L j i) ∧ TrP E.1 E2.1 E.2.1 E2.2.1 s E.2.2.1 E.2.2.2.1 E.2.2.2.2.1 E.2.2.2.2.2 E2.2.2.1 E2.2.2.2.1 E2.2.2.2.2.1 E2.2.2.2.2.2 u 9 ∧ ((al = k ∧ igF (nzP L j) (mm - k) k M = igF (nzP L j) mm 0 X0) ∨ (al + 1 = k ∧ igF (nzP L j) mm 0 X0 = (0, M))) := hP2
    refine (?_ : Ev G mX10_greatestNoise d 38 [some (aR v), some (aR u1), some (aI ((mm : Nat) : Int)), some (aI (-10 * ((j : Nat) : Int) + 500)), some (aI ((al : Nat) : Int)), some (aI ((k : Nat) : Int))] [] E2.1 E2.2.1 Q)
    have hT2 := hP.2.2.tr hP2.2.2.1
    have hSF := hT2.1
    have hvF := TrO_ext hv hT2.2.1.1
    have huF := hvF.2.1.1
    have haF := hvF.2.1.2.1
    have hmF := hvF.2.1.2.2
    have hu1F := ShP_ext hu1 hT2.2.1.1 (by omega)
    refine r_iload (pc := 38) (i := 5) dX10_greatestNoise_38 rfl ?_
    refine r_iload_n (pc := 40) (i := 2) dX10_greatestNoise_40 rfl rfl ?_
    refine r_icmp_ge (pc := 41) (tgt := 103) dX10_greatestNoise_41 rfl (fun c41 => ?_) (fun c41 => ?_)
    · refine r_iload (pc := 103) (i := 4) dX10_greatestNoise_103 rfl ?_
      refine r_iload_n (pc := 105) (i := 2) dX10_greatestNoise_105 rfl rfl ?_
      refine r_icmp_ne (pc := 106) (tgt := 111) dX10_greatestNoise_106 rfl (fun c106 => ?_) (fun c106 => ?_)
      · refine r_iincN (pc := 111) (i := 3) (c := (-10 * ((j : Nat) : Int) + 490)) (lv' := [_, _, _, _, _, _]) dX10_greatestNoise_111 rfl (by decide) (by unfold w32; omega) rfl ?_
        refine r_goto (pc := 114) (tgt := 14) dX10_greatestNoise_114 rfl ?_
        refine Ev.weak (lv2 := [some (aR v), some (aR u1), some (aI ((mm : Nat) : Int)), some (aI (-10 * ((j : Nat) : Int) + 490)), none, none]) ⟨Or.inr rfl, Or.inr rfl, Or.inr rfl, Or.inr rfl, Or.inl rfl, Or.inl rfl, trivial⟩ ?_
        have hI : igF (nzP L j) mm 0 X0 = (0, M) := by rcases hP2.2.2.2 with h | h; (exfalso; omega); exact h.2
        have hz := hP.1.2
        rw [show 51 - j = (50 - j) + 1 by omega, nzF_succ, hI, if_pos rfl] at hz
        exact Ev.re (by rw [show -10 * ((j : Nat) : Int) + 490 = -10 * ((j + 1 : Nat) : Int) + 500 by omega]) rfl (ih (j + 1) E2 M ⟨⟨by omega, by rw [show 51 - (j + 1) = 50 - j by omega]; exact hz⟩, fun i hi i1 => by rw [hP2.2.1 i hi i1.1]; exact un_ne i1.2, hP.2.2.tr hP2.2.2.1⟩ (by omega))
      · have c106 := Decidable.of_not_not c106
        refine r_iload_n (pc := 109) (i := 3) dX10_greatestNoise_109 rfl rfl ?_
        have hz := hP.1.2
        have hI : igF (nzP L j) (mm - k) k M = igF (nzP L j) mm 0 X0 := by rcases hP2.2.2.2 with h | h; (exact h.2); exfalso; omega
        have hk : k = mm := by rcases hP2.2.2.2 with h | h <;> omega
        rw [show mm - k = 0 by omega, show igF (nzP L j) 0 k M = (1, M) from rfl] at hI
        rw [show 51 - j = (50 - j) + 1 by omega, nzF_succ, ← hI, if_neg (show ¬ (1 : Int) = 0 by decide)] at hz
        exact r_iret (pc := 110) dX10_greatestNoise_110 trivial (by have h := hq _ _ _ _ _ _ hT2; rw [← hz, show (500 : Int) - 10 * (j : Int) = -10 * ((j : Nat) : Int) + 500 by omega] at h; exact h)
    · refine r_iload (pc := 44) (i := 4) dX10_greatestNoise_44 rfl ?_
      refine r_iload (pc := 46) (i := 5) dX10_greatestNoise_46 rfl ?_
      refine r_icmp_ne (pc := 48) (tgt := 103) dX10_greatestNoise_48 rfl (fun c48 => ?_) (fun c48 => ?_)
      · refine r_iload (pc := 103) (i := 4) dX10_greatestNoise_103 rfl ?_
        refine r_iload_n (pc := 105) (i := 2) dX10_greatestNoise_105 rfl rfl ?_
        refine r_icmp_ne (pc := 106) (tgt := 111) dX10_greatestNoise_106 rfl (fun c106 => ?_) (fun c106 => ?_)
        · refine r_iincN (pc := 111) (i := 3) (c := (-10 * ((j : Nat) : Int) + 490)) (lv' := [_, _, _, _, _, _]) dX10_greatestNoise_111 rfl (by decide) (by unfold w32; omega) rfl ?_
          refine r_goto (pc := 114) (tgt := 14) dX10_greatestNoise_114 rfl ?_
          refine Ev.weak (lv2 := [some (aR v), some (aR u1), some (aI ((mm : Nat) : Int)), some (aI (-10 * ((j : Nat) : Int) + 490)), none, none]) ⟨Or.inr rfl, Or.inr rfl, Or.inr rfl, Or.inr rfl, Or.inl rfl, Or.inl rfl, trivial⟩ ?_
          have hI : igF (nzP L j) mm 0 X0 = (0, M) := by rcases hP2.2.2.2 with h | h; (exfalso; omega); exact h.2
          have hz := hP.1.2
          rw [show 51 - j = (50 - j) + 1 by omega, nzF_succ, hI, if_pos rfl] at hz
          exact Ev.re (by rw [show -10 * ((j : Nat) : Int) + 490 = -10 * ((j + 1 : Nat) : Int) + 500 by omega]) rfl (ih (j + 1) E2 M ⟨⟨by omega, by rw [show 51 - (j + 1) = 50 - j by omega]; exact hz⟩, fun i hi i1 => by rw [hP2.2.1 i hi i1.1]; exact un_ne i1.2, hP.2.2.tr hP2.2.2.1⟩ (by omega))
        · have c106 := Decidable.of_not_not c106
          refine r_iload_n (pc := 109) (i := 3) dX10_greatestNoise_109 rfl rfl ?_
          have hz := hP.1.2
          have hI : igF (nzP L j) (mm - k) k M = igF (nzP L j) mm 0 X0 := by rcases hP2.2.2.2 with h | h; (exact h.2); exfalso; omega
          have hk : k = mm := by rcases hP2.2.2.2 with h | h <;> omega
          rw [show mm - k = 0 by omega, show igF (nzP L j) 0 k M = (1, M) from rfl] at hI
          rw [show 51 - j = (50 - j) + 1 by omega, nzF_succ, ← hI, if_neg (show ¬ (1 : Int) = 0 by decide)] at hz
          exact r_iret (pc := 110) dX10_greatestNoise_110 trivial (by have h := hq _ _ _ _ _ _ hT2; rw [← hz, show (500 : Int) - 10 * (j : Int) = -10 * ((j : Nat) : Int) + 500 by omega] at h; exact h)
      · have c48 := Decidable.of_not_not c48
        refine r_aload_n (pc := 51) (i := 0) dX10_greatestNoise_51 rfl rfl ?_
        refine r_aload_n (pc := 52) (i := 1) dX10_greatestNoise_52 rfl rfl ?_
        refine r_iconst (pc := 53) dX10_greatestNoise_53 (in32_of rfl) ?_
        refine r_callV1 (pc := 54) (d - 1) [aI 1] dX10_greatestNoise_54 (CV.mk2 mk_X6_number lk_X10_54) (RC.of (ltP0 hu1F) (kP0 hu1F) (by decide) rfl) rfl rfl (by omega) (Nat.le_of_ble_eq_true rfl) (Nat.le_of_ble_eq_true rfl) (k_num (L := L) hu1F 1 (by decide) (fun j hj => (congrFun (hT2.fr hS (by omega) (by omega) (by omega)) j).trans (hL1 j hj)) ?_)
        refine ⟨_, rfl, fun _ => ?_⟩
        refine r_iload (pc := 57) (i := 5) dX10_greatestNoise_57 rfl ?_
        refine r_iaddN (pc := 59) (c := (nzP L j 1 + k)) dX10_greatestNoise_59 (by unfold w32; omega) ?_
        refine r_callV0 (pc := 60) (d - 1) [aI (nzP L j 1 + k)] dX10_greatestNoise_60 (CV.mk2 mk_X10_runWhole lk_X10_92) (RC.of hvF.1.2.1 hvF.1.1 (by decide) rfl) rfl rfl (by omega) (Nat.le_of_ble_eq_true rfl) (Nat.le_of_ble_eq_true rfl) (k_runWhole (N := M) (sd := nzP L j 1 + k) (L := nzP L j) hSF hvF (by omega) hLz hP2.2.1 (by omega) (by omega) (fun U K p2 o2 t2 c2 n hA hrow2 => ?_))
        refine ⟨rfl, fun _ => ?_⟩
        have hSU := hA.1
        have hvU := TrO_ext hvF hA.2.1.1
        have huU := hvU.2.1.1
        have haU := hvU.2.1.2.1
        have hmU := hvU.2.1.2.2
        have hg6 := ok_6.mp (hA.2.2.2.2.2.1.1 6)
        refine r_iload (pc := 63) (i := 4) dX10_greatestNoise_63 rfl ?_
        refine r_aload_n (pc := 65) (i := 0) dX10_greatestNoise_65 rfl rfl ?_
        refine r_getfr (pc := 66) (b := s) cks dX10_greatestNoise_66 fl_X10_12 rfl hvU.1.1 hvU.1.2.1 hvU.1.2.2.1 ?_
        refine r_getfi (pc := 69) cks dX10_greatestNoise_69 fl_X10_95 rfl (kS0 hSU) (ltS0 hSU) ?_
        refine r_top (b := (gaR (nzP L j) (nzP L j 1 + k) M).2 0) (hA.2.2.2.1.1.1) ?_
        refine r_iconst (pc := 72) dX10_greatestNoise_72 (in32_of rfl) ?_
        refine r_icmp_ne (pc := 73) (tgt := 93) dX10_greatestNoise_73 rfl (fun c73 => ?_) (fun c73 => ?_)
        · refine r_iconst (pc := 93) dX10_greatestNoise_93 (in32_of rfl) ?_
          refine r_iaddN (pc := 94) (c := ((al : Nat) : Int)) dX10_greatestNoise_94 (by unfold w32; omega) ?_
          refine r_istore (pc := 95) (i := 4) (lv' := [_, _, _, _, _, _]) dX10_greatestNoise_95 (by decide) rfl ?_
          refine r_iincN (pc := 97) (i := 5) (c := ((k + 1 : Nat) : Int)) (lv' := [_, _, _, _, _, _]) dX10_greatestNoise_97 rfl (by decide) (by unfold w32; omega) rfl ?_
          refine r_goto (pc := 100) (tgt := 38) dX10_greatestNoise_100 rfl ?_
          have hI : igF (nzP L j) (mm - k) k M = igF (nzP L j) mm 0 X0 := by rcases hP2.2.2.2 with h | h; (exact h.2); exfalso; omega
          rw [show mm - k = (mm - (k + 1)) + 1 by omega, igF_succ] at hI
          have hal := alF_01 (gaR (nzP L j) (nzP L j 1 + k) M).2
          rw [if_pos (Decidable.of_not_not (fun h => c73 (gr_st.mpr h)))] at hI
          exact ih2 (k + 1) al (U, K, p2, o2, t2, c2) (gaR (nzP L j) (nzP L j 1 + k) M).2 ⟨by omega, hrow2, hP2.2.2.1.tr hA.P, Or.inr ⟨by omega, hI.symm⟩⟩ (by omega)
        · have c73 := Decidable.of_not_not c73
          refine r_aload_n (pc := 76) (i := 0) dX10_greatestNoise_76 rfl rfl ?_
          refine r_getfr (pc := 77) (b := s) cks dX10_greatestNoise_77 fl_X10_12 rfl hvU.1.1 hvU.1.2.1 hvU.1.2.2.1 ?_
          refine r_getfr (pc := 80) (b := s + 11) cks dX10_greatestNoise_80 fl_X10_98 rfl (kS0 hSU) (ltS0 hSU) (rS0_13 hSU) ?_
          refine r_callV1 (pc := 83) (d - 1) [] dX10_greatestNoise_83 (CV.mk2 mk_X1_areUnlike lk_X10_102) (RC.of (ltS (k := 11) hSU (by omega)) (kS11 hSU) (by decide) rfl) rfl rfl (by omega) (Nat.le_of_ble_eq_true rfl) (Nat.le_of_ble_eq_true rfl) (k_finUnlike (l := ((gaR (nzP L j) (nzP L j 1 + k) M).2 6).toNat) (N := (gaR (nzP L j) (nzP L j 1 + k) M).2) hSU (hA.2.2.2.1.2.2.2.2.2.1.trans (by omega)) (by omega) hA.2.2.2.1.2.2.2.2.2.2.2.2.2.1 ?_)
          refine ⟨_, rfl, fun _ => ?_⟩
          refine r_if_ne (pc := 86) (tgt := 93) dX10_greatestNoise_86 rfl (fun c86 => ?_) (fun c86 => ?_)
          · refine r_iconst (pc := 93) dX10_greatestNoise_93 (in32_of rfl) ?_
            refine r_iaddN (pc := 94) (c := ((al : Nat) : Int)) dX10_greatestNoise_94 (by unfold w32; omega) ?_
            refine r_istore (pc := 95) (i := 4) (lv' := [_, _, _, _, _, _]) dX10_greatestNoise_95 (by decide) rfl ?_
            refine r_iincN (pc := 97) (i := 5) (c := ((k + 1 : Nat) : Int)) (lv' := [_, _, _, _, _, _]) dX10_greatestNoise_97 rfl (by decide) (by unfold w32; omega) rfl ?_
            refine r_goto (pc := 100) (tgt := 38) dX10_greatestNoise_100 rfl ?_
            have hI : igF (nzP L j) (mm - k) k M = igF (nzP L j) mm 0 X0 := by rcases hP2.2.2.2 with h | h; (exact h.2); exfalso; omega
            rw [show mm - k = (mm - (k + 1)) + 1 by omega, igF_succ] at hI
            have hal := alF_01 (gaR (nzP L j) (nzP L j 1 + k) M).2
            rw [if_neg (gr_st.mp (by omega)), if_pos (by unfold alF at hal ⊢; omega)] at hI
            exact ih2 (k + 1) al (U, K, p2, o2, t2, c2) (gaR (nzP L j) (nzP L j 1 + k) M).2 ⟨by omega, hrow2, hP2.2.2.1.tr hA.P, Or.inr ⟨by omega, hI.symm⟩⟩ (by omega)
          · have c86 := Decidable.of_not_not c86
            refine r_iconst (pc := 89) dX10_greatestNoise_89 (in32_of rfl) ?_
            refine r_goto (pc := 90) (tgt := 94) dX10_greatestNoise_90 rfl ?_
            refine r_iaddN (pc := 94) (c := ((al + 1 : Nat) : Int)) dX10_greatestNoise_94 (by unfold w32; omega) ?_
            refine r_istore (pc := 95) (i := 4) (lv' := [_, _, _, _, _, _]) dX10_greatestNoise_95 (by decide) rfl ?_
            refine r_iincN (pc := 97) (i := 5) (c := ((k + 1 : Nat) : Int)) (lv' := [_, _, _, _, _, _]) dX10_greatestNoise_97 rfl (by decide) (by unfold w32; omega) rfl ?_
            refine r_goto (pc := 100) (tgt := 38) dX10_greatestNoise_100 rfl ?_
            have hI : igF (nzP L j) (mm - k) k M = igF (nzP L j) mm 0 X0 := by rcases hP2.2.2.2 with h | h; (exact h.2); exfalso; omega
            rw [show mm - k = (mm - (k + 1)) + 1 by omega, igF_succ] at hI
            have hal := alF_01 (gaR (nzP L j) (nzP L j 1 + k) M).2
            rw [if_neg (gr_st.mp (by omega)), if_neg (by unfold alF; omega)] at hI
            exact ih2 (k + 1) (al + 1) (U, K, p2, o2, t2, c2) (gaR (nzP L j) (nzP L j 1 + k) M).2 ⟨by omega, hrow2, hP2.2.2.1.tr hA.P, Or.inl ⟨by omega, hI⟩⟩ (by omega)
end C50
