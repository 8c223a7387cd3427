section C66
variable {G : Gl} {d : Nat} {T : Sh} {I : Mi} {N : Nat → Int} {Q : Option AV → Sh → Mi → Prop}
theorem k_image {tp u e : Nat} {L Bt W P Y : Nat → Int} {A : AN} (hK : KSh T A) {x : Int} (hd : 5 ≤ d) (hC : KC I A tp L Bt u e W P Y N) (hw : wOk W) (hp : pOk P) (hq0 : ¬ (0 ≤ x ∧ x ≤ 1) → Q (some (aI (-1))) T I) (hq1 : ∀ k : Nat, x = (k : Int) → k ≤ 1 → ∀ (U : Sh) (K : Mi) (A2 : AN), KSh U A2 → (∀ b, 274 ≤ b → b < 291 → K b = I b) → KC K A2 tp L Bt u e W (cpyR N 0 P (17510 * k) (tN N + 3902)) (un Y k (ibw true 1)) N → Q (some (aI (N 0))) U K) : EvE G mX11_image d [aR 0, aI x] T I Q := by
  obtain ⟨⟨hL, hLp⟩, hTp, ⟨hst, htc, ⟨q, n, hNo⟩, h26⟩, hRg, hIm⟩ := id hC
  have hS := sK0 hK
  have hn2 := hNo.1.2.2.1
  have hstg := hNo.2.2.2
  have hpl := hLp
  unfold plOk at hpl
  have h6r := ok_6.mp (hNo.1.1 6)
  have h9r := ok_9.mp (hNo.1.1 9)
  have h12r := ok_12.mp (hNo.1.1 12)
  have hN2 := hNo.2.2.1
  have hq6 := hNo.1.2.2.2.1
  refine EvE.mk (lv0 := [some (aR 0), some (aI x)]) (Nat.le_of_ble_eq_true rfl) (by decide +kernel) rfl ?_
  refine r_iload_n (pc := 0) (i := 1) dX11_image_0 rfl rfl ?_
  refine r_if_lt (pc := 1) (tgt := 9) dX11_image_1 rfl (fun c1 => ?_) (fun c1 => ?_)
  · refine r_iconst (pc := 9) dX11_image_9 (in32_of rfl) ?_
    exact r_iret (pc := 10) dX11_image_10 trivial (hq0 (fun h => by omega))
  · refine r_iload_n (pc := 4) (i := 1) dX11_image_4 rfl rfl ?_
    refine r_iconst (pc := 5) dX11_image_5 (in32_of rfl) ?_
    refine r_icmp_lt (pc := 6) (tgt := 11) dX11_image_6 rfl (fun c6 => ?_) (fun c6 => ?_)
    · obtain ⟨k, rfl⟩ : ∃ e : Nat, x = (e : Int) := ⟨(x).toNat, by omega⟩
      obtain ⟨g, hg⟩ : ∃ g, g = sN (k + 14) := ⟨_, rfl⟩
      have hSg : ShS T g (A (k + 14)).1 (A (k + 14)).2.1 (A (k + 14)).2.2.1 (A (k + 14)).2.2.2 := by rw [hg]; exact hK.2.2.1 (k + 14) (by omega)
      have hrg : rf T 206 k = some g := by rw [hg]; exact hK.1.2.2.2.2 k (by omega)
      have hgz := sN_207 (j := k + 14) (by omega)
      rw [← hg] at hgz
      have hgb := sN_le (i := k + 14) (by omega)
      rw [← hg] at hgb
      have hap := hK.2.2.2.1 (k + 14) 0 (by omega) (by decide) (by omega)
      have hgj : g + 15 ≤ 9 ∨ 9 + 15 ≤ g := by rw [hg]; have := sN_dj (i := k + 14) (j := 0) (by omega) (by decide) (by omega); exact this
      refine r_aload_n (pc := 11) (i := 0) dX11_image_11 rfl rfl ?_
      refine r_getfr (pc := 12) (b := 206) cks dX11_image_12 fl_X11_45 rfl (kK0 hK) (ltK hK (by decide)) (rK0_6 hK) ?_
      refine r_iload_n (pc := 15) (i := 1) dX11_image_15 rfl rfl ?_
      refine r_aaload (pc := 16) (b := g) dX11_image_16 (kK206 hK) (ltK hK (by decide)) (by omega) (by rw [lK206 hK]; omega) (by rw [Int.toNat_natCast]; exact hrg) ?_
      refine r_aload_n (pc := 17) (i := 0) dX11_image_17 rfl rfl ?_
      refine r_getfr (pc := 18) (b := 9) cks dX11_image_18 fl_X11_34 rfl (kK0 hK) (ltK hK (by decide)) (rK0_4 hK) ?_
      refine r_callV0 (pc := 21) (d - 1) [aR 9] dX11_image_21 (CV.mk2 mk_X9_takeFrom lk_X11_313) (RC.of (ltS0 hSg) (kS0 hSg) (by decide) rfl) rfl rfl (by omega) (Nat.le_of_ble_eq_true rfl) (Nat.le_of_ble_eq_true rfl) (k_stFrom (s := g) (s2 := 9) (n := n) (q := q) (L := L) (N := N) hSg hS (by omega) hgj hap hst htc hNo.1 hNo.2.1 hNo.2.2.1 hLp (fun U K p3 o3 t3 c3 hA => ?_))
      refine ⟨rfl, fun _ => ?_⟩
      have hKU := KSh_ext (i := k + 14) (by omega) hK (by rw [← hg]; exact hA.2.1.1) (by rw [← hg]; exact hA.1) hA.2.1.2
      have hK207 : K 207 = I 207 := hA.fr hSg (by decide) (by omega) (by omega)
      have hK9 : K 9 = I 9 := hA.fr hSg (by decide) (by omega) (by omega)
      refine r_aload_n (pc := 24) (i := 0) dX11_image_24 rfl rfl ?_
      refine r_getfr (pc := 25) (b := 207) cks dX11_image_25 fl_X11_49 rfl (kK0 hKU) (ltK hKU (by decide)) (rK0_7 hKU) ?_
      refine r_iload_n (pc := 28) (i := 1) dX11_image_28 rfl rfl ?_
      refine r_iconst (pc := 29) dX11_image_29 (in32_of rfl) ?_
      refine r_ist (pc := 30) (k) dX11_image_30 (kK207 hKU) (ltK hKU (by decide)) rfl (by rw [lK207 hKU]; omega) ?_
      refine r_mem (I2 := sr K 207 (un (K 207) k 1)) ((up2_row _ _ _ _).trans ((congrArg (fun fz_ => sr K 207 (un fz_ k 1)) (show K 207 = K 207 from rfl)).trans (rfl))) ?_
      refine r_aload_n (pc := 31) (i := 0) dX11_image_31 rfl rfl ?_
      refine r_getfr (pc := 32) (b := 9) cks dX11_image_32 fl_X11_34 rfl (kK0 hKU) (ltK hKU (by decide)) (rK0_4 hKU) ?_
      refine r_getfi (pc := 35) cks dX11_image_35 fl_X11_126 rfl (kS0 (sK0 hKU)) (ltS0 (sK0 hKU)) ?_
      refine r_top (b := K 9 0) ((congrFun (sr_ne (by omega)) _).trans (rfl)) ?_
      refine r_top (b := N 0) ((congrFun hK9 0).trans hst.1.1) ?_
      obtain ⟨r1, r2, r3⟩ := kc_image (F := un (K 207) k 1) (k := k) hK hC hp (by omega) (by rw [← hg]; exact hA) hNo (by rw [hK207])
      exact r_iret (pc := 38) dX11_image_38 trivial (hq1 k rfl (by omega) _ _ _ r1 r2 r3)
    · refine r_iconst (pc := 9) dX11_image_9 (in32_of rfl) ?_
      exact r_iret (pc := 10) dX11_image_10 trivial (hq0 (fun h => by omega))
theorem k_back {tp u e : Nat} {L Bt W P Y : Nat → Int} {A : AN} (hK : KSh T A) {x : Int} (hd : 5 ≤ d) (hC : KC I A tp L Bt u e W P Y N) (hw : wOk W) (hq0 : (∀ k : Nat, x = (k : Int) → k ≤ 1 → Y k = 0) → Q (some (aI (-1))) T I) (hq1 : ∀ k : Nat, x = (k : Int) → k ≤ 1 → ¬ Y k = 0 → ∀ (U : Sh) (K : Mi) (A2 : AN), KSh U A2 → (∀ b, 274 ≤ b → b < 291 → K b = I b) → KC K A2 tp L Bt 0 e W P Y (cpyR P (17510 * k) N 0 ((P (17510 * k + 3)).toNat + 3902)) → Q (some (aI ((cpyR P (17510 * k) N 0 ((P (17510 * k + 3)).toNat + 3902)) 0))) U K) : EvE G mX11_back d [aR 0, aI x] T I Q := by
  obtain ⟨⟨hL, hLp⟩, hTp, ⟨hst, htc, ⟨q, n, hNo⟩, h26⟩, hRg, hIm⟩ := id hC
  have hS := sK0 hK
  have hn2 := hNo.1.2.2.1
  have hstg := hNo.2.2.2
  have hpl := hLp
  unfold plOk at hpl
  have h6r := ok_6.mp (hNo.1.1 6)
  have h9r := ok_9.mp (hNo.1.1 9)
  have h12r := ok_12.mp (hNo.1.1 12)
  have hN2 := hNo.2.2.1
  have hq6 := hNo.1.2.2.2.1
  refine EvE.mk (lv0 := [some (aR 0), some (aI x)]) (Nat.le_of_ble_eq_true rfl) (by decide +kernel) rfl ?_
  refine r_iload_n (pc := 0) (i := 1) dX11_back_0 rfl rfl ?_
  refine r_if_lt (pc := 1) (tgt := 18) dX11_back_1 rfl (fun c1 => ?_) (fun c1 => ?_)
  · refine r_iconst (pc := 18) dX11_back_18 (in32_of rfl) ?_
    exact r_iret (pc := 19) dX11_back_19 trivial (hq0 (fun k2 hk1 hk2 => absurd hk1 (by omega)))
  · refine r_iload_n (pc := 4) (i := 1) dX11_back_4 rfl rfl ?_
    refine r_iconst (pc := 5) dX11_back_5 (in32_of rfl) ?_
    refine r_icmp_ge (pc := 6) (tgt := 18) dX11_back_6 rfl (fun c6 => ?_) (fun c6 => ?_)
    · refine r_iconst (pc := 18) dX11_back_18 (in32_of rfl) ?_
      exact r_iret (pc := 19) dX11_back_19 trivial (hq0 (fun k2 hk1 hk2 => absurd hk1 (by omega)))
    · obtain ⟨k, rfl⟩ : ∃ e : Nat, x = (e : Int) := ⟨(x).toNat, by omega⟩
      refine r_aload_n (pc := 9) (i := 0) dX11_back_9 rfl rfl ?_
      refine r_getfr (pc := 10) (b := 207) cks dX11_back_10 fl_X11_49 rfl (kK0 hK) (ltK hK (by decide)) (rK0_7 hK) ?_
      refine r_iload_n (pc := 13) (i := 1) dX11_back_13 rfl rfl ?_
      refine r_ild (pc := 14) (k) dX11_back_14 (kK207 hK) (ltK hK (by decide)) rfl (by rw [lK207 hK]; omega) ?_
      refine r_if_ne (pc := 15) (tgt := 20) dX11_back_15 rfl (fun c15 => ?_) (fun c15 => ?_)
      · obtain ⟨g, hg⟩ : ∃ g, g = sN (k + 14) := ⟨_, rfl⟩
        have hSg : ShS T g (A (k + 14)).1 (A (k + 14)).2.1 (A (k + 14)).2.2.1 (A (k + 14)).2.2.2 := by rw [hg]; exact hK.2.2.1 (k + 14) (by omega)
        have hrg : rf T 206 k = some g := by rw [hg]; exact hK.1.2.2.2.2 k (by omega)
        have hgz := sN_207 (j := k + 14) (by omega)
        rw [← hg] at hgz
        have hgb := sN_le (i := k + 14) (by omega)
        rw [← hg] at hgb
        have hyk : ¬ Y k = 0 := fun h => by have := (hIm k (by omega)).1.2 h; omega
        have hrl := (hIm k (by omega)).2 hyk
        obtain ⟨hst2, htc2, ⟨q2, n2, hNo2⟩, h262⟩ := id hrl
        rw [← hg] at hst2
        have hap := hK.2.2.2.1 0 (k + 14) (by decide) (by omega) (by omega)
        have hgj : 9 + 15 ≤ g ∨ g + 15 ≤ 9 := by rw [hg]; have := sN_dj (i := 0) (j := k + 14) (by decide) (by omega) (by omega); exact this
        refine r_aload_n (pc := 20) (i := 0) dX11_back_20 rfl rfl ?_
        refine r_getfr (pc := 21) (b := 9) cks dX11_back_21 fl_X11_34 rfl (kK0 hK) (ltK hK (by decide)) (rK0_4 hK) ?_
        refine r_aload_n (pc := 24) (i := 0) dX11_back_24 rfl rfl ?_
        refine r_getfr (pc := 25) (b := 206) cks dX11_back_25 fl_X11_45 rfl (kK0 hK) (ltK hK (by decide)) (rK0_6 hK) ?_
        refine r_iload_n (pc := 28) (i := 1) dX11_back_28 rfl rfl ?_
        refine r_aaload (pc := 29) (b := g) dX11_back_29 (kK206 hK) (ltK hK (by decide)) (by omega) (by rw [lK206 hK]; omega) (by rw [Int.toNat_natCast]; exact hrg) ?_
        refine r_callV0 (pc := 30) (d - 1) [aR g] dX11_back_30 (CV.mk2 mk_X9_takeFrom lk_X11_313) (RC.of (ltS0 hS) (kS0 hS) (by decide) rfl) rfl rfl (by omega) (Nat.le_of_ble_eq_true rfl) (Nat.le_of_ble_eq_true rfl) (k_stFrom (s := 9) (s2 := g) (n := n2) (q := q2) (L := L) (N := wRow P k) hS hSg (by omega) hgj hap hst2 htc2 hNo2.1 hNo2.2.1 hNo2.2.2.1 hLp (fun U K p3 o3 t3 c3 hA => ?_))
        refine ⟨rfl, fun _ => ?_⟩
        have hKC := KC_now hK hC hA.P (Or.inr ⟨rfl, rfl⟩) ⟨hA.2.2.2.1, hA.2.2.2.2.1, ⟨q2, n2, hNo2⟩, h262⟩
        have hKU := hKC.1
        have hC2 : KC K (upA A 0 (p3, o3, t3, c3)) tp L Bt u e W P Y (cpyR P (17510 * k) N 0 ((P (17510 * k + 3)).toNat + 3902)) := ⟨hKC.2.1, hKC.2.2.1, SRel_ag hLp hKC.2.2.2.1 ag_row, hKC.2.2.2.2⟩
        have hfr : ∀ b, 274 ≤ b → b < 291 → K b = I b := fun b b1 b2 => hA.fr hS b2 (by omega) (by omega)
        have h24 : (9 : Nat) ≠ 24 := by decide
        refine r_aload_n (pc := 33) (i := 0) dX11_back_33 rfl rfl ?_
        refine r_getfr (pc := 34) (b := 24) cks dX11_back_34 fl_X11_41 rfl (kK0 hKU) (ltK hKU (by decide)) (rK0_5 hKU) ?_
        refine r_callV0 (pc := 37) (d - 1) [] dX11_back_37 (CV.mk2 mk_X2_clear lk_X11_98) (RC.of (ltK hKU (by decide)) (kK24 hKU) (by decide) rfl) rfl rfl (by omega) (Nat.le_of_ble_eq_true rfl) (Nat.le_of_ble_eq_true rfl) (k_hisClear (tp := 0) (u := 0) (e := 0) (L := L) (Bt := Bt) (W := W) (P := P) (Y := Y) hKU ?_)
        refine ⟨rfl, fun _ => ?_⟩
        refine r_mem (I2 := sr K 24 (un (K 24) 2 0)) ((congrArg (fun v0_ => (sr K 24 (un v0_ 2 0))) (show K 24 = K 24 from rfl)).trans (rfl)) ?_
        refine r_aload_n (pc := 40) (i := 0) dX11_back_40 rfl rfl ?_
        refine r_getfr (pc := 41) (b := 9) cks dX11_back_41 fl_X11_34 rfl (kK0 hKU) (ltK hKU (by decide)) (rK0_4 hKU) ?_
        refine r_getfi (pc := 44) cks dX11_back_44 fl_X11_126 rfl (kS0 (sK0 hKU)) (ltS0 (sK0 hKU)) ?_
        refine r_top (b := K 9 0) ((congrFun (sr_ne (by omega)) _).trans (rfl)) ?_
        refine r_top (b := (cpyR P (17510 * k) N 0 ((P (17510 * k + 3)).toNat + 3902)) 0) (hC2.2.2.1.1.1.1) ?_
        have hC3 := kc_24 (K := sr K 24 (un (K 24) 2 0)) (u2 := 0) (e2 := e) (W2 := W) hKU hC2 (fun b hb => sr_ne (by omega)) (by rw [sr_row, un_at]; rfl) (by rw [sr_row, un_ne (by decide)]; exact hC2.2.2.2.1.2.1.2) (by decide) hC2.2.2.2.1.1.2 (fun j hj => absurd hj (Nat.not_lt_zero j))
        exact r_iret (pc := 47) dX11_back_47 trivial (hq1 k rfl (by omega) hyk _ _ _ hKU (fun b b1 b2 => (sr_ne (by omega)).trans (hfr b b1 b2)) hC3)
      · have c15 := Decidable.of_not_not c15
        refine r_iconst (pc := 18) dX11_back_18 (in32_of rfl) ?_
        exact r_iret (pc := 19) dX11_back_19 trivial (hq0 (fun k2 hk1 hk2 => (show k = k2 from (by omega)) ▸ (hIm k (by omega)).1.1 (by omega)))
theorem k_end {tp u e : Nat} {L Bt W P Y : Nat → Int} {A : AN} (hK : KSh T A) {x : Int} (hd : 1 ≤ d) (hC : KC I A tp L Bt u e W P Y N) (hw : wOk W) (hq0 : ¬ (0 ≤ x ∧ x ≤ (tp : Int)) → Q (some (aI (-1))) T I) (hq1 : ∀ k : Nat, x = (k : Int) → k ≤ tp → ∀ K : Mi, (∀ b, 274 ≤ b → b < 291 → K b = I b) → KC K A k L Bt u e W P Y N → Q (some (aI (k : Int))) T K) : EvE G mX11_end d [aR 0, aI x] T I Q := by
  obtain ⟨⟨hL, hLp⟩, hTp, ⟨hst, htc, ⟨q, n, hNo⟩, h26⟩, hRg, hIm⟩ := id hC
  have hS := sK0 hK
  have hn2 := hNo.1.2.2.1
  have hstg := hNo.2.2.2
  have hpl := hLp
  unfold plOk at hpl
  have h6r := ok_6.mp (hNo.1.1 6)
  have h9r := ok_9.mp (hNo.1.1 9)
  have h12r := ok_12.mp (hNo.1.1 12)
  have hN2 := hNo.2.2.1
  have hq6 := hNo.1.2.2.2.1
  refine EvE.mk (lv0 := [some (aR 0), some (aI x)]) (Nat.le_of_ble_eq_true rfl) (by decide +kernel) rfl ?_
  refine r_iload_n (pc := 0) (i := 1) dX11_end_0 rfl rfl ?_
  refine r_if_lt (pc := 1) (tgt := 12) dX11_end_1 rfl (fun c1 => ?_) (fun c1 => ?_)
  · refine r_iconst (pc := 12) dX11_end_12 (in32_of rfl) ?_
    exact r_iret (pc := 13) dX11_end_13 trivial (hq0 (fun h => by omega))
  · refine r_iload_n (pc := 4) (i := 1) dX11_end_4 rfl rfl ?_
    refine r_aload_n (pc := 5) (i := 0) dX11_end_5 rfl rfl ?_
    refine r_getfi (pc := 6) cks dX11_end_6 fl_X11_13 rfl (kK0 hK) (ltK hK (by decide)) ?_
    refine r_top (b := ((tp : Nat) : Int)) (hTp.1) ?_
    refine r_icmp_le (pc := 9) (tgt := 14) dX11_end_9 rfl (fun c9 => ?_) (fun c9 => ?_)
    · obtain ⟨k, rfl⟩ : ∃ e : Nat, x = (e : Int) := ⟨(x).toNat, by omega⟩
      refine r_aload_n (pc := 14) (i := 0) dX11_end_14 rfl rfl ?_
      refine r_iload_n (pc := 15) (i := 1) dX11_end_15 rfl rfl ?_
      refine r_putfi (pc := 16) cks dX11_end_16 fl_X11_13 (pf_11_1 _ _) rfl (kK0 hK) (ltK hK (by decide)) ?_
      refine r_mem (I2 := sr I 0 (un (I 0) 1 ((k : Nat) : Int))) ((up2_row _ _ _ _).trans ((congrArg (fun fz_ => sr I 0 (un fz_ 1 ((k : Nat) : Int))) (show I 0 = I 0 from rfl)).trans (rfl))) ?_
      refine r_iload_n (pc := 19) (i := 1) dX11_end_19 rfl rfl ?_
      exact r_iret (pc := 20) dX11_end_20 trivial (hq1 k rfl (by omega) _ (fun b b1 b2 => sr_ne (by omega)) (KC_low hK hC (fun b hb => sr_ne (by omega)) (sr_ne (by decide)) (by rw [sr_row, un_at]) (by omega) (fun k2 hk2 => by rw [sr_ne (by decide)]; exact hTp.2.2 k2 (by omega))))
    · refine r_iconst (pc := 12) dX11_end_12 (in32_of rfl) ?_
      exact r_iret (pc := 13) dX11_end_13 trivial (hq0 (fun h => by omega))
end C66
