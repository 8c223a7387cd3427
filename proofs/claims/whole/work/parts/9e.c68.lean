section C68
variable {G : Gl} {d : Nat} {T : Sh} {I : Mi} {N : Nat → Int} {Q : Option AV → Sh → Mi → Prop}
theorem fe_v {B : Nat → Int} {tp : Nat} {a b c e f : Int} (i : Nat) (hi : i < 20) : feR B tp a b c e f 20 (tp + i) = feB (feV a b c e f i) i := (feR_at 20).1 i hi
theorem k_feed {tp u e : Nat} {L Bt W P Y : Nat → Int} {A : AN} (hK : KSh T A) {a b c f g : Int} (hd : 2 ≤ d) (hC : KC I A tp L Bt u e W P Y N) (hw : wOk W) (hq0 : 180 < tp → Q (some (aI (-1))) T I) (hq1 : tp ≤ 180 → ∀ K : Mi, (∀ b, 274 ≤ b → b < 291 → K b = I b) → KC K A (tp + 20) L (feR Bt tp a b c f g 20) u e W P Y N → Q (some (aI ((tp + 20 : Nat) : Int))) T K) : EvE G mX11_feed d [aR 0, aI a, aI b, aI c, aI f, aI g] T I Q := by
  obtain ⟨⟨hL, hLp⟩, hTp, ⟨hst, htc, ⟨q, n, hNo⟩, h26⟩, hRg, hIm⟩ := id hC
  have hS := sK0 hK
  have hn2 := hNo.1.2.2.1
  have hstg := hNo.2.2.2
  have hpl := hLp
  unfold plOk at hpl
  have h6r := ok_6.mp (hNo.1.1 6)
  have h9r := ok_9.mp (hNo.1.1 9)
  have h12r := ok_12.mp (hNo.1.1 12)
  have hN2 := hNo.2.2.1
  have hq6 := hNo.1.2.2.2.1
  refine EvE.mk (lv0 := [some (aR 0), some (aI a), some (aI b), some (aI c), some (aI f), some (aI g)]) (Nat.le_of_ble_eq_true rfl) (by decide +kernel) rfl ?_
  refine r_aload_n (pc := 0) (i := 0) dX11_feed_0 rfl rfl ?_
  refine r_getfi (pc := 1) cks dX11_feed_1 fl_X11_13 rfl (kK0 hK) (ltK hK (by decide)) ?_
  refine r_top (b := ((tp : Nat) : Int)) (hTp.1) ?_
  refine r_sipush (pc := 4) dX11_feed_4 rfl (in32_of rfl) ?_
  refine r_icmp_le (pc := 7) (tgt := 12) dX11_feed_7 rfl (fun c7 => ?_) (fun c7 => ?_)
  · refine r_aload_n (pc := 12) (i := 0) dX11_feed_12 rfl rfl ?_
    refine r_iload_n (pc := 13) (i := 1) dX11_feed_13 rfl rfl ?_
    refine r_callV0 (pc := 14) (d - 1) [aI a] dX11_feed_14 (CV.mk2 mk_X11_tapeFour lk_X11_80) (RC.of (ltK hK (by decide)) (kK0 hK) (by decide) rfl) rfl rfl (by omega) (Nat.le_of_ble_eq_true rfl) (Nat.le_of_ble_eq_true rfl) (k_tapeFour (A := A) (tp := tp) (Bt := feR Bt tp a b c f g 20) (v := a) hK hTp.1 (by omega) (fun k hk => by rw [(feR_at (B := Bt) (tp := tp) (a := a) (b := b) (c := c) (e := f) (f := g) 20).2 k hk]; exact hTp.2.2 k hk) (show feR Bt tp a b c f g 20 (tp + 0) = _ from fe_v 0 (by decide)) (show feR Bt tp a b c f g 20 (tp + 1) = _ from fe_v 1 (by decide)) (show feR Bt tp a b c f g 20 (tp + 2) = _ from fe_v 2 (by decide)) (show feR Bt tp a b c f g 20 (tp + 3) = _ from fe_v 3 (by decide)) (fun K1 hf1 hz1 ht1 => ?_))
    refine ⟨rfl, fun _ => ?_⟩
    refine r_aload_n (pc := 17) (i := 0) dX11_feed_17 rfl rfl ?_
    refine r_iload_n (pc := 18) (i := 2) dX11_feed_18 rfl rfl ?_
    refine r_callV0 (pc := 19) (d - 1) [aI b] dX11_feed_19 (CV.mk2 mk_X11_tapeFour lk_X11_80) (RC.of (ltK hK (by decide)) (kK0 hK) (by decide) rfl) rfl rfl (by omega) (Nat.le_of_ble_eq_true rfl) (Nat.le_of_ble_eq_true rfl) (k_tapeFour (A := A) (tp := tp + 4) (Bt := feR Bt tp a b c f g 20) (v := b) hK hz1 (by omega) ht1 (show feR Bt tp a b c f g 20 (tp + 4) = _ from fe_v 4 (by decide)) (show feR Bt tp a b c f g 20 (tp + 5) = _ from fe_v 5 (by decide)) (show feR Bt tp a b c f g 20 (tp + 6) = _ from fe_v 6 (by decide)) (show feR Bt tp a b c f g 20 (tp + 7) = _ from fe_v 7 (by decide)) (fun K2 hf2 hz2 ht2 => ?_))
    refine ⟨rfl, fun _ => ?_⟩
    refine r_aload_n (pc := 22) (i := 0) dX11_feed_22 rfl rfl ?_
    refine r_iload_n (pc := 23) (i := 3) dX11_feed_23 rfl rfl ?_
    refine r_callV0 (pc := 24) (d - 1) [aI c] dX11_feed_24 (CV.mk2 mk_X11_tapeFour lk_X11_80) (RC.of (ltK hK (by decide)) (kK0 hK) (by decide) rfl) rfl rfl (by omega) (Nat.le_of_ble_eq_true rfl) (Nat.le_of_ble_eq_true rfl) (k_tapeFour (A := A) (tp := tp + 8) (Bt := feR Bt tp a b c f g 20) (v := c) hK hz2 (by omega) ht2 (show feR Bt tp a b c f g 20 (tp + 8) = _ from fe_v 8 (by decide)) (show feR Bt tp a b c f g 20 (tp + 9) = _ from fe_v 9 (by decide)) (show feR Bt tp a b c f g 20 (tp + 10) = _ from fe_v 10 (by decide)) (show feR Bt tp a b c f g 20 (tp + 11) = _ from fe_v 11 (by decide)) (fun K3 hf3 hz3 ht3 => ?_))
    refine ⟨rfl, fun _ => ?_⟩
    refine r_aload_n (pc := 27) (i := 0) dX11_feed_27 rfl rfl ?_
    refine r_iload (pc := 28) (i := 4) dX11_feed_28 rfl ?_
    refine r_callV0 (pc := 30) (d - 1) [aI f] dX11_feed_30 (CV.mk2 mk_X11_tapeFour lk_X11_80) (RC.of (ltK hK (by decide)) (kK0 hK) (by decide) rfl) rfl rfl (by omega) (Nat.le_of_ble_eq_true rfl) (Nat.le_of_ble_eq_true rfl) (k_tapeFour (A := A) (tp := tp + 12) (Bt := feR Bt tp a b c f g 20) (v := f) hK hz3 (by omega) ht3 (show feR Bt tp a b c f g 20 (tp + 12) = _ from fe_v 12 (by decide)) (show feR Bt tp a b c f g 20 (tp + 13) = _ from fe_v 13 (by decide)) (show feR Bt tp a b c f g 20 (tp + 14) = _ from fe_v 14 (by decide)) (show feR Bt tp a b c f g 20 (tp + 15) = _ from fe_v 15 (by decide)) (fun K4 hf4 hz4 ht4 => ?_))
    refine ⟨rfl, fun _ => ?_⟩
    refine r_aload_n (pc := 33) (i := 0) dX11_feed_33 rfl rfl ?_
    refine r_iload (pc := 34) (i := 5) dX11_feed_34 rfl ?_
    refine r_callV0 (pc := 36) (d - 1) [aI g] dX11_feed_36 (CV.mk2 mk_X11_tapeFour lk_X11_80) (RC.of (ltK hK (by decide)) (kK0 hK) (by decide) rfl) rfl rfl (by omega) (Nat.le_of_ble_eq_true rfl) (Nat.le_of_ble_eq_true rfl) (k_tapeFour (A := A) (tp := tp + 16) (Bt := feR Bt tp a b c f g 20) (v := g) hK hz4 (by omega) ht4 (show feR Bt tp a b c f g 20 (tp + 16) = _ from fe_v 16 (by decide)) (show feR Bt tp a b c f g 20 (tp + 17) = _ from fe_v 17 (by decide)) (show feR Bt tp a b c f g 20 (tp + 18) = _ from fe_v 18 (by decide)) (show feR Bt tp a b c f g 20 (tp + 19) = _ from fe_v 19 (by decide)) (fun K5 hf5 hz5 ht5 => ?_))
    refine ⟨rfl, fun _ => ?_⟩
    refine r_aload_n (pc := 39) (i := 0) dX11_feed_39 rfl rfl ?_
    refine r_getfi (pc := 40) cks dX11_feed_40 fl_X11_13 rfl (kK0 hK) (ltK hK (by decide)) ?_
    refine r_top (b := ((tp + 20 : Nat) : Int)) (hz5) ?_
    have hfr : ∀ b, 2 ≤ b → K5 b = I b := fun b hb => (hf5 b hb).trans ((hf4 b hb).trans ((hf3 b hb).trans ((hf2 b hb).trans (hf1 b hb))))
    exact r_iret (pc := 43) dX11_feed_43 trivial (hq1 (by omega) _ (fun b b1 b2 => hfr b (by omega)) (KC_low hK hC (fun b hb => hfr b (by omega)) (hfr 3 (by decide)) hz5 (by omega) ht5))
  · refine r_iconst (pc := 10) dX11_feed_10 (in32_of rfl) ?_
    exact r_iret (pc := 11) dX11_feed_11 trivial (hq0 (by omega))
theorem k_plan {tp u e : Nat} {L Bt W P Y : Nat → Int} {A : AN} (hK : KSh T A) {R0 X0 : Nat → Int} (hd : 9 ≤ d) (hC : KC I A tp L Bt u e W P Y N) (hw : wOk W) (hR0 : ∀ k, k < 9 → R0 k = eUsual k) (hX0 : ∀ k, k < 9 → X0 k = 0) (hqF : (plF Bt tp eLeast eMost 201 0 R0 X0 0).1 < 0 → ∀ (U : Sh) (K : Mi), KSh U A → (∀ b, 274 ≤ b → b < 291 → K b = I b) → KC K A 0 L Bt u e W P Y N → Q (some (aI (plF Bt tp eLeast eMost 201 0 R0 X0 0).1)) U K) (hqS : 0 ≤ (plF Bt tp eLeast eMost 201 0 R0 X0 0).1 → ∀ (U : Sh) (K : Mi), KSh U A → (∀ b, 274 ≤ b → b < 291 → K b = I b) → KC K A 0 (usR L (plF Bt tp eLeast eMost 201 0 R0 X0 0).2 9) Bt 0 e W P (z8 Y 2) (begins N) → Q (some (aI (plF Bt tp eLeast eMost 201 0 R0 X0 0).1)) U K) : EvE G mX11_plan d [aR 0] T I Q := by
  obtain ⟨⟨hL, hLp⟩, hTp, ⟨hst, htc, ⟨q, n, hNo⟩, h26⟩, hRg, hIm⟩ := id hC
  have hS := sK0 hK
  have hn2 := hNo.1.2.2.1
  have hstg := hNo.2.2.2
  have hpl := hLp
  unfold plOk at hpl
  have h6r := ok_6.mp (hNo.1.1 6)
  have h9r := ok_9.mp (hNo.1.1 9)
  have h12r := ok_12.mp (hNo.1.1 12)
  have hN2 := hNo.2.2.1
  have hq6 := hNo.1.2.2.2.1
  refine EvE.mk (lv0 := [some (aR 0), none]) (Nat.le_of_ble_eq_true rfl) (by decide +kernel) rfl ?_
  refine r_aload_n (pc := 0) (i := 0) dX11_plan_0 rfl rfl ?_
  refine r_getfr (pc := 1) (b := 4) cks dX11_plan_1 fl_X11_27 rfl (kK0 hK) (ltK hK (by decide)) (rK0_3 hK) ?_
  refine r_aload_n (pc := 4) (i := 0) dX11_plan_4 rfl rfl ?_
  refine r_getfr (pc := 5) (b := 1) cks dX11_plan_5 fl_X11_9 rfl (kK0 hK) (ltK hK (by decide)) (rK0_0 hK) ?_
  refine r_aload_n (pc := 8) (i := 0) dX11_plan_8 rfl rfl ?_
  refine r_getfi (pc := 9) cks dX11_plan_9 fl_X11_13 rfl (kK0 hK) (ltK hK (by decide)) ?_
  refine r_top (b := ((tp : Nat) : Int)) (hTp.1) ?_
  refine r_callV1 (pc := 12) (d - 1) [aR 1, aI ((tp : Nat) : Int)] dX11_plan_12 (CV.mk2 mk_X7_read lk_X11_84) (RC.of (ltK hK (by decide)) (kK4 hK) (by decide) rfl) rfl rfl (by omega) (Nat.le_of_ble_eq_true rfl) (Nat.le_of_ble_eq_true rfl) (k_read (r := 4) (x := 1) (B := Bt) (tp := tp) (R0 := R0) (X0 := X0) (by omega) (qK4 hK) (kK1 hK) (lK1 hK) (ltK hK (by decide)) (by omega) (fun k hk => by unfold bA; rw [if_pos hk]; exact hTp.2.2 k hk) (by decide) (by decide) hR0 hX0 (fun K hfK hvK => ?_))
  refine ⟨_, rfl, fun _ => ?_⟩
  obtain ⟨U, hU⟩ : ∃ U, U = rsT T 4 2 1 := ⟨_, rfl⟩
  rw [← hU]
  have hKU : KSh U A := by rw [hU]; exact KSh_rs hK
  have hK9 : ∀ b, 9 ≤ b → K b = I b := fun b hb => hfK b (by omega) (by omega) (by omega)
  refine r_istore_n (pc := 15) (i := 1) (lv' := [_, _]) dX11_plan_15 rfl (by decide) rfl ?_
  refine r_aload_n (pc := 16) (i := 0) dX11_plan_16 rfl rfl ?_
  refine r_iconst (pc := 17) dX11_plan_17 (in32_of rfl) ?_
  refine r_putfi (pc := 18) cks dX11_plan_18 fl_X11_13 (pf_11_1 _ _) rfl (kK0 hKU) (ltK hKU (by decide)) ?_
  refine r_mem (I2 := sr K 0 (un (K 0) 1 0)) ((up2_row _ _ _ _).trans ((congrArg (fun fz_ => sr K 0 (un fz_ 1 0)) (show K 0 = K 0 from rfl)).trans (rfl))) ?_
  refine r_iload_n (pc := 21) (i := 1) dX11_plan_21 rfl rfl ?_
  refine r_if_ge (pc := 22) (tgt := 27) dX11_plan_22 rfl (fun c22 => ?_) (fun c22 => ?_)
  · refine r_aload_n (pc := 27) (i := 0) dX11_plan_27 rfl rfl ?_
    refine r_getfr (pc := 28) (b := 2) cks dX11_plan_28 fl_X11_20 rfl (kK0 hKU) (ltK hKU (by decide)) (rK0_2 hKU) ?_
    refine r_aload_n (pc := 31) (i := 0) dX11_plan_31 rfl rfl ?_
    refine r_getfr (pc := 32) (b := 4) cks dX11_plan_32 fl_X11_27 rfl (kK0 hKU) (ltK hKU (by decide)) (rK0_3 hKU) ?_
    refine r_getfr (pc := 35) (b := 5) cks dX11_plan_35 fl_X11_88 rfl (kK4 hKU) (ltK hKU (by decide)) (rK4_0 hKU) ?_
    refine r_callV0 (pc := 38) (d - 1) [aR 5] dX11_plan_38 (CV.mk2 mk_X6_takeFrom lk_X11_91) (RC.of (ltP0 (pK2 hKU)) (kP0 (pK2 hKU)) (by decide) rfl) rfl rfl (by omega) (Nat.le_of_ble_eq_true rfl) (Nat.le_of_ble_eq_true rfl) (k_planFrom (u := 2) (u2 := 5) (pK2 hKU) (qK4 hKU).2.2.2.2 (by omega) (by decide) ?_)
    refine ⟨rfl, fun _ => ?_⟩
    refine r_mem (I2 := sr (sr K 0 (un (K 0) 1 0)) 3 (cpyR (K 6) 0 (K 3) 0 9)) ((congrArg (fun v0_ => (sr (sr K 0 (un (K 0) 1 0)) 3 (cpyR (K 6) 0 v0_ 0 9))) (show (sr K 0 (un (K 0) 1 0)) 3 = K 3 from (sr_ne (by omega)).trans (rfl))).trans (rfl)) ?_
    refine r_aload_n (pc := 41) (i := 0) dX11_plan_41 rfl rfl ?_
    refine r_getfr (pc := 42) (b := 9) cks dX11_plan_42 fl_X11_34 rfl (kK0 hKU) (ltK hKU (by decide)) (rK0_4 hKU) ?_
    refine r_callV0 (pc := 45) (d - 1) [] dX11_plan_45 (CV.mk2 mk_X9_clear lk_X11_95) (RC.of (ltS0 (sK0 hKU)) (kS0 (sK0 hKU)) (by decide) rfl) rfl rfl (by omega) (Nat.le_of_ble_eq_true rfl) (Nat.le_of_ble_eq_true rfl) (k_clear (sK0 hKU) (by omega) ?_)
    refine ⟨rfl, fun _ => ?_⟩
    refine r_mem (I2 := sr (sr (sr (sr (sr (sr K 0 (un (K 0) 1 0)) 3 (cpyR (K 6) 0 (K 3) 0 9)) 9 (clF (K 9))) (9 + 3) (un (K (9 + 3)) 0 0)) (9 + 7) (un (K (9 + 7)) 0 0)) (9 + 11) (un (un (un (un (K (9 + 11)) 0 0) 4 0) 5 (-1)) 6 (-1))) ((congr (congr (congr (congrArg (fun v0_ v1_ v2_ v3_ => (sr (sr (sr (sr (sr (sr K 0 (un (K 0) 1 0)) 3 (cpyR (K 6) 0 (K 3) 0 9)) 9 (clF v0_)) (9 + 3) (un v1_ 0 0)) (9 + 7) (un v2_ 0 0)) (9 + 11) (un (un (un (un v3_ 0 0) 4 0) 5 (-1)) 6 (-1)))) (show (sr (sr K 0 (un (K 0) 1 0)) 3 (cpyR (K 6) 0 (K 3) 0 9)) 9 = K 9 from (sr_ne (by omega)).trans ((sr_ne (by omega)).trans (rfl)))) (show (sr (sr K 0 (un (K 0) 1 0)) 3 (cpyR (K 6) 0 (K 3) 0 9)) (9 + 3) = K (9 + 3) from (sr_ne (by omega)).trans ((sr_ne (by omega)).trans (rfl)))) (show (sr (sr K 0 (un (K 0) 1 0)) 3 (cpyR (K 6) 0 (K 3) 0 9)) (9 + 7) = K (9 + 7) from (sr_ne (by omega)).trans ((sr_ne (by omega)).trans (rfl)))) (show (sr (sr K 0 (un (K 0) 1 0)) 3 (cpyR (K 6) 0 (K 3) 0 9)) (9 + 11) = K (9 + 11) from (sr_ne (by omega)).trans ((sr_ne (by omega)).trans (rfl)))).trans ((congrArg (fun X => sr X (9 + 11) (un (un (un (un (K (9 + 11)) 0 0) 4 0) 5 (-1)) 6 (-1))) ((congrArg (fun X => sr X (9 + 7) (un (K (9 + 7)) 0 0)) ((congrArg (fun X => sr X (9 + 3) (un (K (9 + 3)) 0 0)) (rfl)).trans (rfl))).trans (rfl))).trans (rfl))) ?_
    refine r_aload_n (pc := 48) (i := 0) dX11_plan_48 rfl rfl ?_
    refine r_getfr (pc := 49) (b := 24) cks dX11_plan_49 fl_X11_41 rfl (kK0 hKU) (ltK hKU (by decide)) (rK0_5 hKU) ?_
    refine r_callV0 (pc := 52) (d - 1) [] dX11_plan_52 (CV.mk2 mk_X2_clear lk_X11_98) (RC.of (ltK hKU (by decide)) (kK24 hKU) (by decide) rfl) rfl rfl (by omega) (Nat.le_of_ble_eq_true rfl) (Nat.le_of_ble_eq_true rfl) (k_hisClear (tp := 0) (u := 0) (e := 0) (L := L) (Bt := Bt) (W := W) (P := P) (Y := Y) hKU ?_)
    refine ⟨rfl, fun _ => ?_⟩
    refine r_mem (I2 := sr (sr (sr (sr (sr (sr (sr K 0 (un (K 0) 1 0)) 3 (cpyR (K 6) 0 (K 3) 0 9)) 9 (clF (K 9))) (9 + 3) (un (K (9 + 3)) 0 0)) (9 + 7) (un (K (9 + 7)) 0 0)) (9 + 11) (un (un (un (un (K (9 + 11)) 0 0) 4 0) 5 (-1)) 6 (-1))) 24 (un (K 24) 2 0)) ((congrArg (fun v0_ => (sr (sr (sr (sr (sr (sr (sr K 0 (un (K 0) 1 0)) 3 (cpyR (K 6) 0 (K 3) 0 9)) 9 (clF (K 9))) (9 + 3) (un (K (9 + 3)) 0 0)) (9 + 7) (un (K (9 + 7)) 0 0)) (9 + 11) (un (un (un (un (K (9 + 11)) 0 0) 4 0) 5 (-1)) 6 (-1))) 24 (un v0_ 2 0))) (show (sr (sr (sr (sr (sr (sr K 0 (un (K 0) 1 0)) 3 (cpyR (K 6) 0 (K 3) 0 9)) 9 (clF (K 9))) (9 + 3) (un (K (9 + 3)) 0 0)) (9 + 7) (un (K (9 + 7)) 0 0)) (9 + 11) (un (un (un (un (K (9 + 11)) 0 0) 4 0) 5 (-1)) 6 (-1))) 24 = K 24 from (sr_ne (by omega)).trans ((sr_ne (by omega)).trans ((sr_ne (by omega)).trans ((sr_ne (by omega)).trans ((sr_ne (by omega)).trans ((sr_ne (by omega)).trans (rfl)))))))).trans (rfl)) ?_
    refine r_aload_n (pc := 55) (i := 0) dX11_plan_55 rfl rfl ?_
    refine r_getfr (pc := 56) (b := 207) cks dX11_plan_56 fl_X11_49 rfl (kK0 hKU) (ltK hKU (by decide)) (rK0_7 hKU) ?_
    refine r_iconst (pc := 59) dX11_plan_59 (in32_of rfl) ?_
    refine r_callS0 (pc := 60) (d - 1) [aR 207, aI 0] dX11_plan_60 (CS.mk2 mk_J7_fill_53178 lk_X11_99) rfl rfl (by omega) (Nat.le_of_ble_eq_true rfl) (Nat.le_of_ble_eq_true rfl) (k_fillI (x := 207) (lx := 2) (kK207 hKU) (ltK hKU (by decide)) (lK207 hKU) (by omega) ?_)
    refine ⟨rfl, fun _ => ?_⟩
    refine r_mem (I2 := sr (sr (sr (sr (sr (sr (sr (sr K 0 (un (K 0) 1 0)) 3 (cpyR (K 6) 0 (K 3) 0 9)) 9 (clF (K 9))) (9 + 3) (un (K (9 + 3)) 0 0)) (9 + 7) (un (K (9 + 7)) 0 0)) (9 + 11) (un (un (un (un (K (9 + 11)) 0 0) 4 0) 5 (-1)) 6 (-1))) 24 (un (K 24) 2 0)) 207 (fiR (K 207) 0 2)) ((congrArg (fun v0_ => (sr (sr (sr (sr (sr (sr (sr (sr K 0 (un (K 0) 1 0)) 3 (cpyR (K 6) 0 (K 3) 0 9)) 9 (clF (K 9))) (9 + 3) (un (K (9 + 3)) 0 0)) (9 + 7) (un (K (9 + 7)) 0 0)) (9 + 11) (un (un (un (un (K (9 + 11)) 0 0) 4 0) 5 (-1)) 6 (-1))) 24 (un (K 24) 2 0)) 207 (fiR v0_ 0 2))) (show (sr (sr (sr (sr (sr (sr (sr K 0 (un (K 0) 1 0)) 3 (cpyR (K 6) 0 (K 3) 0 9)) 9 (clF (K 9))) (9 + 3) (un (K (9 + 3)) 0 0)) (9 + 7) (un (K (9 + 7)) 0 0)) (9 + 11) (un (un (un (un (K (9 + 11)) 0 0) 4 0) 5 (-1)) 6 (-1))) 24 (un (K 24) 2 0)) 207 = K 207 from (sr_ne (by omega)).trans ((sr_ne (by omega)).trans ((sr_ne (by omega)).trans ((sr_ne (by omega)).trans ((sr_ne (by omega)).trans ((sr_ne (by omega)).trans ((sr_ne (by omega)).trans (rfl))))))))).trans (rfl)) ?_
    refine r_iload_n (pc := 63) (i := 1) dX11_plan_63 rfl rfl ?_
    obtain ⟨J, hJ⟩ : ∃ J, J = sr (sr (sr (sr (sr (sr (sr (sr K 0 (un (K 0) 1 0)) 3 (cpyR (K 6) 0 (K 3) 0 9)) 9 (clF (K 9))) (9 + 3) (un (K (9 + 3)) 0 0)) (9 + 7) (un (K (9 + 7)) 0 0)) (9 + 11) (un (un (un (un (K (9 + 11)) 0 0) 4 0) 5 (-1)) 6 (-1))) 24 (un (K 24) 2 0)) 207 (fiR (K 207) 0 2) := ⟨_, rfl⟩
    rw [← hJ]
    have p0 : J (0) = un (K 0) 1 0 := by rw [hJ]; exact show (sr (sr (sr (sr (sr (sr (sr (sr K 0 (un (K 0) 1 0)) 3 (cpyR (K 6) 0 (K 3) 0 9)) 9 (clF (K 9))) (9 + 3) (un (K (9 + 3)) 0 0)) (9 + 7) (un (K (9 + 7)) 0 0)) (9 + 11) (un (un (un (un (K (9 + 11)) 0 0) 4 0) 5 (-1)) 6 (-1))) 24 (un (K 24) 2 0)) 207 (fiR (K 207) 0 2)) 0 = un (K 0) 1 0 from (sr_ne (by omega)).trans ((sr_ne (by omega)).trans ((sr_ne (by omega)).trans ((sr_ne (by omega)).trans ((sr_ne (by omega)).trans ((sr_ne (by omega)).trans ((sr_ne (by omega)).trans (sr_row _ _ _)))))))
    have p3 : J (3) = cpyR (K 6) 0 (K 3) 0 9 := by rw [hJ]; exact show (sr (sr (sr (sr (sr (sr (sr (sr K 0 (un (K 0) 1 0)) 3 (cpyR (K 6) 0 (K 3) 0 9)) 9 (clF (K 9))) (9 + 3) (un (K (9 + 3)) 0 0)) (9 + 7) (un (K (9 + 7)) 0 0)) (9 + 11) (un (un (un (un (K (9 + 11)) 0 0) 4 0) 5 (-1)) 6 (-1))) 24 (un (K 24) 2 0)) 207 (fiR (K 207) 0 2)) 3 = cpyR (K 6) 0 (K 3) 0 9 from (sr_ne (by omega)).trans ((sr_ne (by omega)).trans ((sr_ne (by omega)).trans ((sr_ne (by omega)).trans ((sr_ne (by omega)).trans ((sr_ne (by omega)).trans (sr_row _ _ _))))))
    have p9 : J (9) = clF (K 9) := by rw [hJ]; exact show (sr (sr (sr (sr (sr (sr (sr (sr K 0 (un (K 0) 1 0)) 3 (cpyR (K 6) 0 (K 3) 0 9)) 9 (clF (K 9))) (9 + 3) (un (K (9 + 3)) 0 0)) (9 + 7) (un (K (9 + 7)) 0 0)) (9 + 11) (un (un (un (un (K (9 + 11)) 0 0) 4 0) 5 (-1)) 6 (-1))) 24 (un (K 24) 2 0)) 207 (fiR (K 207) 0 2)) 9 = clF (K 9) from (sr_ne (by omega)).trans ((sr_ne (by omega)).trans ((sr_ne (by omega)).trans ((sr_ne (by omega)).trans ((sr_ne (by omega)).trans (sr_row _ _ _)))))
    have p12 : J (9 + 3) = un (K (9 + 3)) 0 0 := by rw [hJ]; exact show (sr (sr (sr (sr (sr (sr (sr (sr K 0 (un (K 0) 1 0)) 3 (cpyR (K 6) 0 (K 3) 0 9)) 9 (clF (K 9))) (9 + 3) (un (K (9 + 3)) 0 0)) (9 + 7) (un (K (9 + 7)) 0 0)) (9 + 11) (un (un (un (un (K (9 + 11)) 0 0) 4 0) 5 (-1)) 6 (-1))) 24 (un (K 24) 2 0)) 207 (fiR (K 207) 0 2)) (9 + 3) = un (K (9 + 3)) 0 0 from (sr_ne (by omega)).trans ((sr_ne (by omega)).trans ((sr_ne (by omega)).trans ((sr_ne (by omega)).trans (sr_row _ _ _))))
    have p16 : J (9 + 7) = un (K (9 + 7)) 0 0 := by rw [hJ]; exact show (sr (sr (sr (sr (sr (sr (sr (sr K 0 (un (K 0) 1 0)) 3 (cpyR (K 6) 0 (K 3) 0 9)) 9 (clF (K 9))) (9 + 3) (un (K (9 + 3)) 0 0)) (9 + 7) (un (K (9 + 7)) 0 0)) (9 + 11) (un (un (un (un (K (9 + 11)) 0 0) 4 0) 5 (-1)) 6 (-1))) 24 (un (K 24) 2 0)) 207 (fiR (K 207) 0 2)) (9 + 7) = un (K (9 + 7)) 0 0 from (sr_ne (by omega)).trans ((sr_ne (by omega)).trans ((sr_ne (by omega)).trans (sr_row _ _ _)))
    have p20 : J (9 + 11) = un (un (un (un (K (9 + 11)) 0 0) 4 0) 5 (-1)) 6 (-1) := by rw [hJ]; exact show (sr (sr (sr (sr (sr (sr (sr (sr K 0 (un (K 0) 1 0)) 3 (cpyR (K 6) 0 (K 3) 0 9)) 9 (clF (K 9))) (9 + 3) (un (K (9 + 3)) 0 0)) (9 + 7) (un (K (9 + 7)) 0 0)) (9 + 11) (un (un (un (un (K (9 + 11)) 0 0) 4 0) 5 (-1)) 6 (-1))) 24 (un (K 24) 2 0)) 207 (fiR (K 207) 0 2)) (9 + 11) = un (un (un (un (K (9 + 11)) 0 0) 4 0) 5 (-1)) 6 (-1) from (sr_ne (by omega)).trans ((sr_ne (by omega)).trans (sr_row _ _ _))
    have p24 : J (24) = un (K 24) 2 0 := by rw [hJ]; exact show (sr (sr (sr (sr (sr (sr (sr (sr K 0 (un (K 0) 1 0)) 3 (cpyR (K 6) 0 (K 3) 0 9)) 9 (clF (K 9))) (9 + 3) (un (K (9 + 3)) 0 0)) (9 + 7) (un (K (9 + 7)) 0 0)) (9 + 11) (un (un (un (un (K (9 + 11)) 0 0) 4 0) 5 (-1)) 6 (-1))) 24 (un (K 24) 2 0)) 207 (fiR (K 207) 0 2)) 24 = un (K 24) 2 0 from (sr_ne (by omega)).trans (sr_row _ _ _)
    have p207 : J (207) = fiR (K 207) 0 2 := by rw [hJ]; exact show (sr (sr (sr (sr (sr (sr (sr (sr K 0 (un (K 0) 1 0)) 3 (cpyR (K 6) 0 (K 3) 0 9)) 9 (clF (K 9))) (9 + 3) (un (K (9 + 3)) 0 0)) (9 + 7) (un (K (9 + 7)) 0 0)) (9 + 11) (un (un (un (un (K (9 + 11)) 0 0) 4 0) 5 (-1)) 6 (-1))) 24 (un (K 24) 2 0)) 207 (fiR (K 207) 0 2)) 207 = fiR (K 207) 0 2 from sr_row _ _ _
    have hJr : ∀ b, 274 ≤ b → b < 291 → J b = I b := fun b b1 b2 => by rw [hJ]; simp only [sr_ne (show b ≠ 0 by omega), sr_ne (show b ≠ 3 by omega), sr_ne (show b ≠ 9 by omega), sr_ne (show b ≠ 9 + 3 by omega), sr_ne (show b ≠ 9 + 7 by omega), sr_ne (show b ≠ 9 + 11 by omega), sr_ne (show b ≠ 24 by omega), sr_ne (show b ≠ 207 by omega)]; exact hK9 b (by omega)
    have hv := hvK (by omega)
    have hKC : KC J A 0 (usR L (plF Bt tp eLeast eMost 201 0 R0 X0 0).2 9) Bt 0 e W P (z8 Y 2) (begins N) := kc_plan hC (plOk_pl hR0) (fun k hk => ?_) (by rw [p0, un_at]) (St_beg p9 (by rw [p12, un_at]) (by rw [p16, un_at]) p20) (by rw [p24, un_at]) (by rw [p24, un_ne (by decide)]; exact (congrFun (hK9 24 (by decide)) 1).trans hRg.2.1.2) (fun k hk => by rw [p207, fiR_in hk])
    · exact r_iret dX11_plan_64 trivial (hqS (by omega) _ _ hKU hJr hKC)
    · rw [p3, cpyR_in (by omega), show usR L (plF Bt tp eLeast eMost 201 0 R0 X0 0).2 9 k = (plF Bt tp eLeast eMost 201 0 R0 X0 0).2 k from if_pos hk, show 0 + (k - 0) = k by omega]; exact hv k hk
  · refine r_iload_n (pc := 25) (i := 1) dX11_plan_25 rfl rfl ?_
    exact r_iret (pc := 26) dX11_plan_26 trivial (hqF (by omega) _ _ hKU (fun b b1 b2 => (sr_ne (by omega)).trans (hK9 b (by omega))) (KC_low hK hC (fun b hb => (sr_ne (by omega)).trans (hK9 b hb)) ((sr_ne (by decide)).trans (hfK 3 (by decide) (by decide) (by decide))) (by rw [sr_row, un_at]; rfl) (by decide) (fun k hk => absurd hk (Nat.not_lt_zero k))))
end C68
