section C45
variable {G : Gl} {d : Nat} {T : Sh} {I : Mi} {N : Nat → Int} {Q : Option AV → Sh → Mi → Prop}
theorem k_put {i u : Nat} {x : Int} (hu : ShP T u) (hi : i < 9) (hq : Q none T (sr I (u + 1) (un (I (u + 1)) i x))) : EvE G mX6_put d [aR u, aI ((i : Nat) : Int), aI x] T I Q := by
  refine EvE.mk (lv0 := [some (aR u), some (aI ((i : Nat) : Int)), some (aI x)]) (Nat.le_of_ble_eq_true rfl) (by decide +kernel) rfl ?_
  refine r_iload_n (pc := 0) (i := 1) dX6_put_0 rfl rfl ?_
  refine r_if_lt (pc := 1) (tgt := 17) dX6_put_1 rfl (fun c1 => absurd c1 (by omega)) (fun c1 => ?_)
  refine r_iload_n (pc := 4) (i := 1) dX6_put_4 rfl rfl ?_
  refine r_bipush (pc := 5) dX6_put_5 rfl (in32_of rfl) ?_
  refine r_icmp_ge (pc := 7) (tgt := 17) dX6_put_7 rfl (fun c7 => absurd c7 (by omega)) (fun c7 => ?_)
  refine r_aload_n (pc := 10) (i := 0) dX6_put_10 rfl rfl ?_
  refine r_getfr (pc := 11) (b := u + 1) cks dX6_put_11 fl_X6_18 rfl (kP0 hu) (ltP0 hu) (rP0_0 hu) ?_
  refine r_iload_n (pc := 14) (i := 1) dX6_put_14 rfl rfl ?_
  refine r_iload_n (pc := 15) (i := 2) dX6_put_15 rfl rfl ?_
  refine r_ist (pc := 16) (i) dX6_put_16 (kP1 hu) (ltP (k := 1) hu (by omega)) rfl (by rw [lP1 hu]; omega) ?_
  refine r_mem (I2 := sr I (u + 1) (un (I (u + 1)) i x)) ((up2_row _ _ _ _).trans ((congrArg (fun fz_ => sr I (u + 1) (un fz_ i x)) (show I (u + 1) = I (u + 1) from rfl)).trans (rfl))) ?_
  exact r_vret (pc := 17) dX6_put_17 trivial hq
theorem k_planFrom {u u2 : Nat} (hu : ShP T u) (hu2 : ShP T u2) (hd : 1 ≤ d) (huu : u + 2 ≤ u2 ∨ u2 + 2 ≤ u) (hq : Q none T (sr I (u + 1) (cpyR (I (u2 + 1)) 0 (I (u + 1)) 0 9))) : EvE G mX6_takeFrom d [aR u, aR u2] T I Q := by
  refine EvE.mk (lv0 := [some (aR u), some (aR u2)]) (Nat.le_of_ble_eq_true rfl) (by decide +kernel) rfl ?_
  refine r_aload_n (pc := 0) (i := 1) dX6_takeFrom_0 rfl rfl ?_
  refine r_getfr (pc := 1) (b := u2 + 1) cks dX6_takeFrom_1 fl_X6_18 rfl (kP0 hu2) (ltP0 hu2) (rP0_0 hu2) ?_
  refine r_iconst (pc := 4) dX6_takeFrom_4 (in32_of rfl) ?_
  refine r_aload_n (pc := 5) (i := 0) dX6_takeFrom_5 rfl rfl ?_
  refine r_getfr (pc := 6) (b := u + 1) cks dX6_takeFrom_6 fl_X6_18 rfl (kP0 hu) (ltP0 hu) (rP0_0 hu) ?_
  refine r_iconst (pc := 9) dX6_takeFrom_9 (in32_of rfl) ?_
  refine r_bipush (pc := 10) dX6_takeFrom_10 rfl (in32_of rfl) ?_
  refine r_cpN (pc := 12) (a := u + 1) (a0 := u2 + 1) (0) (0) (9) dX6_takeFrom_12 (by omega) ac_X6_23 (Nat.le_of_ble_eq_true rfl) (Or.inl (kP1 hu)) ((kP1 hu2).trans (kP1 hu).symm) (ltP (k := 1) hu (by omega)) (ltP (k := 1) hu2 (by omega)) (by omega) (by omega) (by omega) (by rw [lP1 hu2]; omega) (by rw [lP1 hu]; omega) ?_
  refine r_mem (I2 := sr I (u + 1) (cpyR (I (u2 + 1)) 0 (I (u + 1)) 0 9)) ((congr (congrArg (fun fz_ gz_ => sr I (u + 1) (cpyR fz_ 0 gz_ 0 9)) (show I (u2 + 1) = I (u2 + 1) from rfl)) (show I (u + 1) = I (u + 1) from rfl)).trans (rfl)) ?_
  exact r_vret (pc := 15) dX6_takeFrom_15 trivial hq
theorem AcP.id {T : Sh} {I : Mi} {s p o t c q n z w : Nat} {L N : Nat → Int} (hS : ShS T s p o t c) (hst : StR L I s p o t N) (htc : tN N ≤ c) (hP : PmO N q n) (hL : LdOk N q n) : AcP T T I I s p o t c p o t c L N q n z w := ⟨hS, ⟨Ext.id _ _ _, Or.inl rfl, Or.inl rfl, Or.inl rfl⟩, fun _ _ _ _ _ _ _ => rfl, hst, htc, hP, hL⟩
theorem AcP.fr {T U : Sh} {I K : Mi} {s p o t c p2 o2 t2 c2 q n z w b : Nat} {L M : Nat → Int} (h : AcP T U I K s p o t c p2 o2 t2 c2 L M q n z w) (hS : ShS T s p o t c) (hb : b < 291) (hd : b < s ∨ s + 15 ≤ b) (hz : b < z ∨ z + w ≤ b) : K b = I b := by
  obtain ⟨g1, g2, g3⟩ := ne_lw hS hb hd
  exact h.2.2.1 b (Nat.lt_of_lt_of_le hb hS.1.2.1) hd (Ne.symm g1) (Ne.symm g2) (Ne.symm g3) hz
theorem pass_room {M : Nat → Int} {B q n : Nat} (h : pOK M q) (hq : q < 6) (hn : n ≤ 256) (hB : 2 ≤ B) : tN M + nbk n (B * 2 ^ q) + 8 * 256 + 8 ≤ 13608 := by
  have h1 := nbk_le (n := n) (B := B) (q := q) hn hB hq
  have h2 := ok_12.mp (h.1 12)
  have h3 := (tlB_q (q := q) (w := (M 12).toNat) hq (by omega)).2
  have h4 := h.2.2.2.2
  omega
theorem pc_0 {B q : Nat} {N : Nat → Int} (hB : 2 ≤ B) (h : pOK N q) (h0 : ¬ N 0 = 0) (k : Nat) (hk : q + k ≤ 6) : ¬ pcI B N k 0 = 0 := by
  by_cases g : 0 < k
  · rw [(pc_ok hB h k hk).2.2.1 g]; decide
  · rw [show k = 0 by omega]; exact h0
theorem k_passOn {v u a m n B q pp more : Nat} {L X : Nat → Int} {s p o t c : Nat} (hS : ShS T s p o t c) (hv : TrO T v s u a m)  (hd : 6 ≤ d) (hL : ∀ k, k < 9 → I (u + 1) k = X k) (h5 : X 5 = (B : Int)) (h6 : X 6 = (pp : Int)) (hLp : plOk L) (hst : StR L I s p o t N) (htc : tN N ≤ c) (hP0 : PmO N q n) (hLd : LdOk N q n) (hpo : pOK N q) (hN0 : ¬ N 0 = 0) (hN6 : N 6 = 0) (hB1 : 2 ≤ B) (hB2 : B ≤ 64) (hpp : pp ≤ 6) (hq : ∀ (U : Sh) (K : Mi) (p2 o2 t2 c2 : Nat), AcP T U I K s p o t c p2 o2 t2 c2 L (pcI B N (min more (pp - q))) (q + min more (pp - q)) n m 4 → Q none U K) : EvE G mX10_passOn d [aR v, aI ((more : Nat) : Int)] T I Q := by
  have hq6 := hpo.2.2.1
  have hn2 := hP0.2.2.1
  have hu := hv.2.1.1
  have hm := hv.2.1.2.2
  have hvn := hv.2.2
  have hm0 := hm.1
  refine EvE.mk (lv0 := [some (aR v), some (aI ((more : Nat) : Int)), none]) (Nat.le_of_ble_eq_true rfl) (by decide +kernel) rfl ?_
  refine r_iconst (pc := 0) dX10_passOn_0 (in32_of rfl) ?_
  refine r_istore_n (pc := 1) (i := 2) (lv' := [_, _, _]) dX10_passOn_1 rfl (by decide) rfl ?_
  refine loop2 (fun (k : Nat) (E : WE) => k ≤ min more (pp - q) ∧ AcP T E.1 I E.2.1 s p o t c E.2.2.1 E.2.2.2.1 E.2.2.2.2.1 E.2.2.2.2.2 L (pcI B N k) (q + k) n m 4) (fun (k : Nat) (E : WE) => min more (pp - q) - k) (fun (k : Nat) (E : WE) => [some (aR v), some (aI ((more : Nat) : Int)), some (aI ((k : Nat) : Int))]) (fun (k : Nat) (E : WE) => E.1) (fun (k : Nat) (E : WE) => E.2.1) ?_ 0 (T, I, p, o, t, c) ⟨Nat.zero_le _, AcP.id hS hst htc hP0 hLd⟩
  intro k E hP ih
  have hP : k ≤ min more (pp - q) ∧ AcP T E.1 I E.2.1 s p o t c E.2.2.1 E.2.2.2.1 E.2.2.2.2.1 E.2.2.2.2.2 L (pcI B N k) (q + k) n m 4 := hP
  have hSE := hP.2.1
  have hvE := TrO_ext hv hP.2.2.1.1
  have huE := hvE.2.1.1
  have hmE := hvE.2.1.2.2
  have hk6 : q + k ≤ 6 := by omega
  have hpk := pc_ok hB1 hpo k hk6
  refine (?_ : Ev G mX10_passOn d 2 [some (aR v), some (aI ((more : Nat) : Int)), some (aI ((k : Nat) : Int))] [] E.1 E.2.1 Q)
  refine r_iload_n (pc := 2) (i := 2) dX10_passOn_2 rfl rfl ?_
  refine r_iload_n (pc := 3) (i := 1) dX10_passOn_3 rfl rfl ?_
  refine r_icmp_ge (pc := 4) (tgt := 52) dX10_passOn_4 rfl (fun c4 => ?_) (fun c4 => ?_)
  · have hkk : k = min more (pp - q) := by omega
    subst hkk
    exact r_vret (pc := 52) dX10_passOn_52 trivial (hq _ _ _ _ _ _ hP.2)
  · refine r_aload_n (pc := 7) (i := 0) dX10_passOn_7 rfl rfl ?_
    refine r_getfr (pc := 8) (b := s) cks dX10_passOn_8 fl_X10_12 rfl hvE.1.1 hvE.1.2.1 hvE.1.2.2.1 ?_
    refine r_getfi (pc := 11) cks dX10_passOn_11 fl_X10_50 rfl (kS0 hSE) (ltS0 hSE) ?_
    refine r_top (b := ((q + k : Nat) : Int)) (hP.2.2.2.2.1.1.2.2.2.2.2.2.1.trans hpk.1.2.1) ?_
    refine r_aload_n (pc := 14) (i := 0) dX10_passOn_14 rfl rfl ?_
    refine r_getfr (pc := 15) (b := u) cks dX10_passOn_15 fl_X10_21 rfl hvE.1.1 hvE.1.2.1 hvE.1.2.2.2.1 ?_
    refine r_bipush (pc := 18) dX10_passOn_18 rfl (in32_of rfl) ?_
    refine r_callV1 (pc := 20) (d - 1) [aI 6] dX10_passOn_20 (CV.mk2 mk_X6_number lk_X10_54) (RC.of (ltP0 huE) (kP0 huE) (by decide) rfl) rfl rfl (by omega) (Nat.le_of_ble_eq_true rfl) (Nat.le_of_ble_eq_true rfl) (k_num (L := X) huE 6 (by decide) (fun j hj => (congrFun (hP.2.fr hS (by omega) (by omega) (by omega)) j).trans (hL j hj)) ?_)
    refine ⟨_, rfl, fun _ => ?_⟩
    refine r_top (b := ((pp : Nat) : Int)) h6 ?_
    refine r_icmp_ge (pc := 23) (tgt := 52) dX10_passOn_23 rfl (fun c23 => ?_) (fun c23 => ?_)
    · have hkk : k = min more (pp - q) := by omega
      subst hkk
      exact r_vret (pc := 52) dX10_passOn_52 trivial (hq _ _ _ _ _ _ hP.2)
    · refine r_aload_n (pc := 26) (i := 0) dX10_passOn_26 rfl rfl ?_
      refine r_getfr (pc := 27) (b := m) cks dX10_passOn_27 fl_X10_35 rfl hvE.1.1 hvE.1.2.1 hvE.1.2.2.2.2.2 ?_
      refine r_aload_n (pc := 30) (i := 0) dX10_passOn_30 rfl rfl ?_
      refine r_getfr (pc := 31) (b := s) cks dX10_passOn_31 fl_X10_12 rfl hvE.1.1 hvE.1.2.1 hvE.1.2.2.1 ?_
      refine r_aload_n (pc := 34) (i := 0) dX10_passOn_34 rfl rfl ?_
      refine r_getfr (pc := 35) (b := u) cks dX10_passOn_35 fl_X10_21 rfl hvE.1.1 hvE.1.2.1 hvE.1.2.2.2.1 ?_
      refine r_iconst (pc := 38) dX10_passOn_38 (in32_of rfl) ?_
      refine r_callV1 (pc := 39) (d - 1) [aI 5] dX10_passOn_39 (CV.mk2 mk_X6_number lk_X10_54) (RC.of (ltP0 huE) (kP0 huE) (by decide) rfl) rfl rfl (by omega) (Nat.le_of_ble_eq_true rfl) (Nat.le_of_ble_eq_true rfl) (k_num (L := X) huE 5 (by decide) (fun j hj => (congrFun (hP.2.fr hS (by omega) (by omega) (by omega)) j).trans (hL j hj)) ?_)
      refine ⟨_, rfl, fun _ => ?_⟩
      refine r_top (b := ((B : Nat) : Int)) h5 ?_
      refine r_callV1 (pc := 42) (d - 1) [aR s, aI ((B : Nat) : Int)] dX10_passOn_42 (CV.mk2 mk_X5_runPass lk_X10_58) (RC.of (ltD0 hmE) (kD0 hmE) (by decide) rfl) rfl rfl (by omega) (Nat.le_of_ble_eq_true rfl) (Nat.le_of_ble_eq_true rfl) (k_runPass (m := m) (n := n) (B := B) (q := q + k) (L := L) (N := pcI B N k) hSE (by omega) hmE (by omega) hP.2.2.2.2.1 hP.2.2.2.2.2.1 hP.2.2.2.2.2.2.1 hP.2.2.2.2.2.2.2 hpk.1.2.1 (by omega) (pc_0 hB1 hpo hN0 k (by omega)) (hpk.2.2.2.2.2.1.trans hN6) (sg_256 hLp) hB1 hB2 (pass_room hpk.1 (by omega) hn2 hB1) (fun U2 K2 p3 o3 t3 c3 hR => ?_))
      refine ⟨_, rfl, fun _ => ?_⟩
      refine r_pop (pc := 45) dX10_passOn_45 rfl ?_
      refine r_iincN (pc := 46) (i := 2) (c := ((k + 1 : Nat) : Int)) (lv' := [_, _, _]) dX10_passOn_46 rfl (by decide) (by unfold w32; omega) rfl ?_
      refine r_goto (pc := 49) (tgt := 2) dX10_passOn_49 rfl ?_
      exact ih (k + 1) (U2, K2, p3, o3, t3, c3) ⟨by omega, hP.2.tr (by have := hS.1; omega) (AcP.of hR)⟩ (by omega)
end C45
