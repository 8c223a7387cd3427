section C64
variable {G : Gl} {d : Nat} {T : Sh} {I : Mi} {N : Nat → Int} {Q : Option AV → Sh → Mi → Prop}
theorem a_pass {tp u e : Nat} {L Bt W P Y : Nat → Int} {A : AN} (hK : KSh T A) (hd : 7 ≤ d) (hC : KC I A tp L Bt u e W P Y N) (hw : wOk W) (hq0 : ¬ (okP L N) → Q (some (aI (-1))) T I) (hq1 : okP L N → ∀ (U : Sh) (K : Mi) (A2 : AN), KSh U A2 → (∀ b, 274 ≤ b → b < 291 → K b = I b) → KC K A2 tp L Bt (kaU u) ((e + 1) % 12) (kaW W N u) P Y (psF (L 5).toNat N) → Q (some (aI (w32 (psF (L 5).toNat N 7 - N 7)))) U K) : EvE G mX11_pass d [aR 0] T I Q := by
  obtain ⟨⟨hL, hLp⟩, hTp, ⟨hst, htc, ⟨q, n, hNo⟩, h26⟩, hRg, hIm⟩ := id hC
  have hS := sK0 hK
  have hn2 := hNo.1.2.2.1
  have hstg := hNo.2.2.2
  have hpl := hLp
  unfold plOk at hpl
  have h6r := ok_6.mp (hNo.1.1 6)
  have h9r := ok_9.mp (hNo.1.1 9)
  have h12r := ok_12.mp (hNo.1.1 12)
  have hN2 := hNo.2.2.1
  have hq6 := hNo.1.2.2.2.1
  refine EvE.mk (lv0 := [some (aR 0)]) (Nat.le_of_ble_eq_true rfl) (by decide +kernel) rfl ?_
  refine r_aload_n (pc := 0) (i := 0) dX11_pass_0 rfl rfl ?_
  refine r_callV1 (pc := 1) (d - 1) [] dX11_pass_1 (CV.mk2 mk_X11_isMending lk_X11_135) (RC.of (ltK hK (by decide)) (kK0 hK) (by decide) rfl) rfl rfl (by omega) (Nat.le_of_ble_eq_true rfl) (Nat.le_of_ble_eq_true rfl) (k_isMending hK hS hst htc hNo ?_)
  refine ⟨_, rfl, fun _ => ?_⟩
  refine r_if_eq (pc := 4) (tgt := 26) dX11_pass_4 rfl (fun c4 => ?_) (fun c4 => ?_)
  · have c4 := bi_if.mp c4
    refine r_iconst (pc := 26) dX11_pass_26 (in32_of rfl) ?_
    exact r_iret (pc := 27) dX11_pass_27 trivial (hq0 (fun h => by obtain ⟨h1, h2⟩ := h; omega))
  · have c4 := bi_1 c4
    refine r_aload_n (pc := 7) (i := 0) dX11_pass_7 rfl rfl ?_
    refine r_getfr (pc := 8) (b := 9) cks dX11_pass_8 fl_X11_34 rfl (kK0 hK) (ltK hK (by decide)) (rK0_4 hK) ?_
    refine r_getfi (pc := 11) cks dX11_pass_11 fl_X11_139 rfl (kS0 hS) (ltS0 hS) ?_
    refine r_top (b := N 2) (hst.1.2.2.2.2.2.2.1) ?_
    refine r_aload_n (pc := 14) (i := 0) dX11_pass_14 rfl rfl ?_
    refine r_getfr (pc := 15) (b := 2) cks dX11_pass_15 fl_X11_20 rfl (kK0 hK) (ltK hK (by decide)) (rK0_2 hK) ?_
    refine r_bipush (pc := 18) dX11_pass_18 rfl (in32_of rfl) ?_
    refine r_callV1 (pc := 20) (d - 1) [aI 6] dX11_pass_20 (CV.mk2 mk_X6_number lk_X11_105) (RC.of (ltP0 (pK2 hK)) (kP0 (pK2 hK)) (by decide) rfl) rfl rfl (by omega) (Nat.le_of_ble_eq_true rfl) (Nat.le_of_ble_eq_true rfl) (k_num (L := L) (pK2 hK) 6 (by decide) hL ?_)
    refine ⟨_, rfl, fun _ => ?_⟩
    refine r_icmp_lt (pc := 23) (tgt := 28) dX11_pass_23 rfl (fun c23 => ?_) (fun c23 => ?_)
    · have h023 : N 0 = 2 ∨ N 0 = 3 := by omega
      have hpo := hstg.2.2.1 h023
      refine r_aload_n (pc := 28) (i := 0) dX11_pass_28 rfl rfl ?_
      refine r_getfr (pc := 29) (b := 24) cks dX11_pass_29 fl_X11_41 rfl (kK0 hK) (ltK hK (by decide)) (rK0_5 hK) ?_
      refine r_aload_n (pc := 32) (i := 0) dX11_pass_32 rfl rfl ?_
      refine r_getfr (pc := 33) (b := 9) cks dX11_pass_33 fl_X11_34 rfl (kK0 hK) (ltK hK (by decide)) (rK0_4 hK) ?_
      refine r_callV0 (pc := 36) (d - 1) [aR 9] dX11_pass_36 (CV.mk2 mk_X2_keep lk_X11_109) (RC.of (ltK hK (by decide)) (kK24 hK) (by decide) rfl) rfl rfl (by omega) (Nat.le_of_ble_eq_true rfl) (Nat.le_of_ble_eq_true rfl) (k_keep hK (by omega) hC hw (fun U K a hKU hfr hCU => ?_))
      refine ⟨rfl, fun _ => ?_⟩
      obtain ⟨⟨hLU, _⟩, hTpU, ⟨hstU, htcU, _⟩, hRgU, hImU⟩ := id hCU
      have hSU := sK0 hKU
      refine r_aload_n (pc := 39) (i := 0) dX11_pass_39 rfl rfl ?_
      refine r_getfr (pc := 40) (b := 208) cks dX11_pass_40 fl_X11_55 rfl (kK0 hKU) (ltK hKU (by decide)) (rK0_8 hKU) ?_
      refine r_aload_n (pc := 43) (i := 0) dX11_pass_43 rfl rfl ?_
      refine r_getfr (pc := 44) (b := 9) cks dX11_pass_44 fl_X11_34 rfl (kK0 hKU) (ltK hKU (by decide)) (rK0_4 hKU) ?_
      refine r_aload_n (pc := 47) (i := 0) dX11_pass_47 rfl rfl ?_
      refine r_getfr (pc := 48) (b := 2) cks dX11_pass_48 fl_X11_20 rfl (kK0 hKU) (ltK hKU (by decide)) (rK0_2 hKU) ?_
      refine r_iconst (pc := 51) dX11_pass_51 (in32_of rfl) ?_
      refine r_callV1 (pc := 52) (d - 1) [aI 5] dX11_pass_52 (CV.mk2 mk_X6_number lk_X11_105) (RC.of (ltP0 (pK2 hKU)) (kP0 (pK2 hKU)) (by decide) rfl) rfl rfl (by omega) (Nat.le_of_ble_eq_true rfl) (Nat.le_of_ble_eq_true rfl) (k_num (L := L) (pK2 hKU) 5 (by decide) hLU ?_)
      refine ⟨_, rfl, fun _ => ?_⟩
      refine r_top (b := (((L 5).toNat : Nat) : Int)) (by omega) ?_
      refine r_callV1 (pc := 55) (d - 1) [aR 9, aI ((((L 5).toNat) : Nat) : Int)] dX11_pass_55 (CV.mk2 mk_X5_runPass lk_X11_142) (RC.of (ltD0 (dK208 hKU)) (kD0 (dK208 hKU)) (by decide) rfl) rfl rfl (by omega) (Nat.le_of_ble_eq_true rfl) (Nat.le_of_ble_eq_true rfl) (k_runPass (m := 208) (n := n) (B := (L 5).toNat) (q := q) (L := L) (N := N) hSU (by omega) (dK208 hKU) (by omega) hstU htcU hNo.1 hNo.2.1 hN2 (by omega) (by omega) (hstg.1 (by omega)) (sg_of hLp) (by omega) (by omega) (pass_room hpo.1 (by omega) hn2 (by omega)) (fun V J p2 o2 t2 c2 hR => ?_))
      refine ⟨_, rfl, fun _ => ?_⟩
      have hA := AcP.of hR
      have hNb := NOk_ps hNo h023 (by omega) (by omega) hA.2.2.2.2.2.1 hA.2.2.2.2.2.2
      obtain ⟨r1, r2, r3⟩ := fin_act hKU hCU hA (Or.inl ⟨by decide, by decide⟩) hNb (by rw [hNb.2.2.1]; omega)
      exact r_iret (pc := 58) dX11_pass_58 trivial (hq1 ⟨h023, by omega⟩ _ _ _ r1 (fun b b1 b2 => (r3 b b1 b2).trans (hfr b b1 b2)) r2)
    · refine r_iconst (pc := 26) dX11_pass_26 (in32_of rfl) ?_
      exact r_iret (pc := 27) dX11_pass_27 trivial (hq0 (fun h => by obtain ⟨h1, h2⟩ := h; omega))
theorem tl_128 {N : Nat → Int} {q : Nat} (h : pOK N q) (h12 : N 12 + 1 ≤ 8) : tN N + 128 ≤ 13608 ∧ tN N + 30 ≤ 13608 := by
  have h0 := ok_12.mp (h.1 12)
  have h1 := h.2.2.2.2
  have h2 := tlB_le q h.2.2.1 ((N 12).toNat + 1) (by omega)
  have h3 : tlB q ((N 12).toNat + 1) = tlB q (N 12).toNat + 128 := by unfold tlB; omega
  omega
theorem tl_30 {N : Nat → Int} {q : Nat} (h : pOK N q) : tN N + 30 ≤ 13608 := by
  have h0 := ok_12.mp (h.1 12)
  have h1 := h.2.2.2.2
  have h2 := tlB_le q h.2.2.1 (N 12).toNat (by omega)
  omega
theorem a_winnow {tp u e : Nat} {L Bt W P Y : Nat → Int} {A : AN} (hK : KSh T A) (hd : 7 ≤ d) (hC : KC I A tp L Bt u e W P Y N) (hw : wOk W) (hq0 : ¬ (okWn N) → Q (some (aI (-1))) T I) (hq1 : okWn N → ∀ n : Nat, N 1 = (n : Int) → ∀ (U : Sh) (K : Mi) (A2 : AN), KSh U A2 → (∀ b, 274 ≤ b → b < 291 → K b = I b) → KC K A2 tp L Bt (kaU u) ((e + 1) % 12) (kaW W N u) P Y (wnF N n) → Q (some (aI (((wnC N (n / 8) : Nat) : Int)))) U K) : EvE G mX11_winnow d [aR 0] T I Q := by
  obtain ⟨⟨hL, hLp⟩, hTp, ⟨hst, htc, ⟨q, n, hNo⟩, h26⟩, hRg, hIm⟩ := id hC
  have hS := sK0 hK
  have hn2 := hNo.1.2.2.1
  have hstg := hNo.2.2.2
  have hpl := hLp
  unfold plOk at hpl
  have h6r := ok_6.mp (hNo.1.1 6)
  have h9r := ok_9.mp (hNo.1.1 9)
  have h12r := ok_12.mp (hNo.1.1 12)
  have hN2 := hNo.2.2.1
  have hq6 := hNo.1.2.2.2.1
  refine EvE.mk (lv0 := [some (aR 0)]) (Nat.le_of_ble_eq_true rfl) (by decide +kernel) rfl ?_
  refine r_aload_n (pc := 0) (i := 0) dX11_winnow_0 rfl rfl ?_
  refine r_callV1 (pc := 1) (d - 1) [] dX11_winnow_1 (CV.mk2 mk_X11_isMending lk_X11_135) (RC.of (ltK hK (by decide)) (kK0 hK) (by decide) rfl) rfl rfl (by omega) (Nat.le_of_ble_eq_true rfl) (Nat.le_of_ble_eq_true rfl) (k_isMending hK hS hst htc hNo ?_)
  refine ⟨_, rfl, fun _ => ?_⟩
  refine r_if_eq (pc := 4) (tgt := 19) dX11_winnow_4 rfl (fun c4 => ?_) (fun c4 => ?_)
  · have c4 := bi_if.mp c4
    refine r_iconst (pc := 19) dX11_winnow_19 (in32_of rfl) ?_
    exact r_iret (pc := 20) dX11_winnow_20 trivial (hq0 (fun h => by obtain ⟨h1, h2⟩ := h; omega))
  · have c4 := bi_1 c4
    refine r_aload_n (pc := 7) (i := 0) dX11_winnow_7 rfl rfl ?_
    refine r_getfr (pc := 8) (b := 9) cks dX11_winnow_8 fl_X11_34 rfl (kK0 hK) (ltK hK (by decide)) (rK0_4 hK) ?_
    refine r_getfi (pc := 11) cks dX11_winnow_11 fl_X11_146 rfl (kS0 hS) (ltS0 hS) ?_
    refine r_top (b := N 12) (hst.1.2.2.2.2.2.2.2.1) ?_
    refine r_bipush (pc := 14) dX11_winnow_14 rfl (in32_of rfl) ?_
    refine r_icmp_lt (pc := 16) (tgt := 21) dX11_winnow_16 rfl (fun c16 => ?_) (fun c16 => ?_)
    · have h023 : N 0 = 2 ∨ N 0 = 3 := by omega
      have hpo := hstg.2.2.1 h023
      have ht128 := (tl_128 hpo.1 (by omega)).1
      refine r_aload_n (pc := 21) (i := 0) dX11_winnow_21 rfl rfl ?_
      refine r_getfr (pc := 22) (b := 24) cks dX11_winnow_22 fl_X11_41 rfl (kK0 hK) (ltK hK (by decide)) (rK0_5 hK) ?_
      refine r_aload_n (pc := 25) (i := 0) dX11_winnow_25 rfl rfl ?_
      refine r_getfr (pc := 26) (b := 9) cks dX11_winnow_26 fl_X11_34 rfl (kK0 hK) (ltK hK (by decide)) (rK0_4 hK) ?_
      refine r_callV0 (pc := 29) (d - 1) [aR 9] dX11_winnow_29 (CV.mk2 mk_X2_keep lk_X11_109) (RC.of (ltK hK (by decide)) (kK24 hK) (by decide) rfl) rfl rfl (by omega) (Nat.le_of_ble_eq_true rfl) (Nat.le_of_ble_eq_true rfl) (k_keep hK (by omega) hC hw (fun U K a hKU hfr hCU => ?_))
      refine ⟨rfl, fun _ => ?_⟩
      obtain ⟨⟨hLU, _⟩, hTpU, ⟨hstU, htcU, _⟩, hRgU, hImU⟩ := id hCU
      have hSU := sK0 hKU
      refine r_aload_n (pc := 32) (i := 0) dX11_winnow_32 rfl rfl ?_
      refine r_getfr (pc := 33) (b := 208) cks dX11_winnow_33 fl_X11_55 rfl (kK0 hKU) (ltK hKU (by decide)) (rK0_8 hKU) ?_
      refine r_aload_n (pc := 36) (i := 0) dX11_winnow_36 rfl rfl ?_
      refine r_getfr (pc := 37) (b := 9) cks dX11_winnow_37 fl_X11_34 rfl (kK0 hKU) (ltK hKU (by decide)) (rK0_4 hKU) ?_
      refine r_callV1 (pc := 40) (d - 1) [aR 9] dX11_winnow_40 (CV.mk2 mk_X5_winnowEights lk_X11_149) (RC.of (ltD0 (dK208 hKU)) (kD0 (dK208 hKU)) (by decide) rfl) rfl rfl (by omega) (Nat.le_of_ble_eq_true rfl) (Nat.le_of_ble_eq_true rfl) (k_winnowEights (m := 208) (n := n) (q := q) (L := L) (N := N) hSU (by omega) (dK208 hKU) (by omega) hstU htcU hNo.1 hNo.2.1 hN2 (by omega) (hstg.1 (by omega)) (by omega) (sg_of hLp) ht128 (fun V J p2 o2 t2 c2 hA => ?_))
      refine ⟨_, rfl, fun _ => ?_⟩
      have hNb := NOk_wn hNo h023 (by omega) hA.2.2.2.2.2.1 hA.2.2.2.2.2.2
      obtain ⟨r1, r2, r3⟩ := fin_act hKU hCU hA (Or.inl ⟨by decide, by decide⟩) hNb (by rw [hNb.2.2.1, ← hN2]; exact h26)
      exact r_iret (pc := 43) dX11_winnow_43 trivial (hq1 ⟨h023, by omega⟩ n hNo.1.2.1 _ _ _ r1 (fun b b1 b2 => (r3 b b1 b2).trans (hfr b b1 b2)) r2)
    · refine r_iconst (pc := 19) dX11_winnow_19 (in32_of rfl) ?_
      exact r_iret (pc := 20) dX11_winnow_20 trivial (hq0 (fun h => by obtain ⟨h1, h2⟩ := h; omega))
theorem a_check {tp u e : Nat} {L Bt W P Y : Nat → Int} {A : AN} (hK : KSh T A) (hd : 7 ≤ d) (hC : KC I A tp L Bt u e W P Y N) (hw : wOk W) (hq0 : ¬ (okCk N) → Q (some (aI (-1))) T I) (hq1 : okCk N → ∀ n : Nat, N 1 = (n : Int) → ∀ (U : Sh) (K : Mi) (A2 : AN), KSh U A2 → (∀ b, 274 ≤ b → b < 291 → K b = I b) → KC K A2 tp L Bt (kaU u) ((e + 1) % 12) (kaW W N u) P Y (ckF N n (L 7).toNat) → Q (some (aI (isC (rwS N 2580 (n + (L 7).toNat - 1)) n (L 7).toNat))) U K) : EvE G mX11_check d [aR 0] T I Q := by
  obtain ⟨⟨hL, hLp⟩, hTp, ⟨hst, htc, ⟨q, n, hNo⟩, h26⟩, hRg, hIm⟩ := id hC
  have hS := sK0 hK
  have hn2 := hNo.1.2.2.1
  have hstg := hNo.2.2.2
  have hpl := hLp
  unfold plOk at hpl
  have h6r := ok_6.mp (hNo.1.1 6)
  have h9r := ok_9.mp (hNo.1.1 9)
  have h12r := ok_12.mp (hNo.1.1 12)
  have hN2 := hNo.2.2.1
  have hq6 := hNo.1.2.2.2.1
  refine EvE.mk (lv0 := [some (aR 0)]) (Nat.le_of_ble_eq_true rfl) (by decide +kernel) rfl ?_
  refine r_aload_n (pc := 0) (i := 0) dX11_check_0 rfl rfl ?_
  refine r_callV1 (pc := 1) (d - 1) [] dX11_check_1 (CV.mk2 mk_X11_isMending lk_X11_135) (RC.of (ltK hK (by decide)) (kK0 hK) (by decide) rfl) rfl rfl (by omega) (Nat.le_of_ble_eq_true rfl) (Nat.le_of_ble_eq_true rfl) (k_isMending hK hS hst htc hNo ?_)
  refine ⟨_, rfl, fun _ => ?_⟩
  refine r_if_ne (pc := 4) (tgt := 9) dX11_check_4 rfl (fun c4 => ?_) (fun c4 => ?_)
  · have c4 := bi_1 c4
    have h023 : N 0 = 2 ∨ N 0 = 3 := by omega
    have hpo := hstg.2.2.1 h023
    have ht30 := tl_30 hpo.1
    refine r_aload_n (pc := 9) (i := 0) dX11_check_9 rfl rfl ?_
    refine r_getfr (pc := 10) (b := 24) cks dX11_check_10 fl_X11_41 rfl (kK0 hK) (ltK hK (by decide)) (rK0_5 hK) ?_
    refine r_aload_n (pc := 13) (i := 0) dX11_check_13 rfl rfl ?_
    refine r_getfr (pc := 14) (b := 9) cks dX11_check_14 fl_X11_34 rfl (kK0 hK) (ltK hK (by decide)) (rK0_4 hK) ?_
    refine r_callV0 (pc := 17) (d - 1) [aR 9] dX11_check_17 (CV.mk2 mk_X2_keep lk_X11_109) (RC.of (ltK hK (by decide)) (kK24 hK) (by decide) rfl) rfl rfl (by omega) (Nat.le_of_ble_eq_true rfl) (Nat.le_of_ble_eq_true rfl) (k_keep hK (by omega) hC hw (fun U K a hKU hfr hCU => ?_))
    refine ⟨rfl, fun _ => ?_⟩
    obtain ⟨⟨hLU, _⟩, hTpU, ⟨hstU, htcU, _⟩, hRgU, hImU⟩ := id hCU
    have hSU := sK0 hKU
    refine r_aload_n (pc := 20) (i := 0) dX11_check_20 rfl rfl ?_
    refine r_getfr (pc := 21) (b := 212) cks dX11_check_21 fl_X11_62 rfl (kK0 hKU) (ltK hKU (by decide)) (rK0_9 hKU) ?_
    refine r_aload_n (pc := 24) (i := 0) dX11_check_24 rfl rfl ?_
    refine r_getfr (pc := 25) (b := 9) cks dX11_check_25 fl_X11_34 rfl (kK0 hKU) (ltK hKU (by decide)) (rK0_4 hKU) ?_
    refine r_aload_n (pc := 28) (i := 0) dX11_check_28 rfl rfl ?_
    refine r_getfr (pc := 29) (b := 2) cks dX11_check_29 fl_X11_20 rfl (kK0 hKU) (ltK hKU (by decide)) (rK0_2 hKU) ?_
    refine r_callV0 (pc := 32) (d - 1) [aR 9, aR 2] dX11_check_32 (CV.mk2 mk_X0_compare lk_X11_153) (RC.of (ltA0 (aK212 hKU)) (kA0 (aK212 hKU)) (by decide) rfl) rfl rfl (by omega) (Nat.le_of_ble_eq_true rfl) (Nat.le_of_ble_eq_true rfl) (k_compare (a := 212) (u := 2) (n := n) (q := q) (h := (L 7).toNat) (L := L) (N := N) hSU (by omega) (aK212 hKU) (by omega) (pK2 hKU) hLU (by omega) (by omega) (by omega) hstU htcU hNo.1 hNo.2.1 hpo.2 hN2 (by omega) (hstg.1 (by omega)) (sg_of hLp) (by omega) (fun V J p2 o2 t2 c2 hA => ?_))
    refine ⟨rfl, fun _ => ?_⟩
    have hKV := KSh_ext (i := 0) (by decide) hKU hA.2.1.1 hA.1 hA.2.1.2
    refine r_aload_n (pc := 35) (i := 0) dX11_check_35 rfl rfl ?_
    refine r_getfr (pc := 36) (b := 9) cks dX11_check_36 fl_X11_34 rfl (kK0 hKV) (ltK hKV (by decide)) (rK0_4 hKV) ?_
    refine r_getfi (pc := 39) cks dX11_check_39 fl_X11_126 rfl (kS0 hA.1) (ltS0 hA.1) ?_
    refine r_top (b := (ckF N n (L 7).toNat) 0) (hA.2.2.2.1.1.1) ?_
    refine r_iconst (pc := 42) dX11_check_42 (in32_of rfl) ?_
    refine r_icmp_ne (pc := 43) (tgt := 50) dX11_check_43 rfl (fun c43 => ?_) (fun c43 => ?_)
    · refine r_iconst (pc := 50) dX11_check_50 (in32_of rfl) ?_
      have hNb := NOk_ck hNo h023 (by omega) (by omega) hA.2.2.2.2.2.1 hA.2.2.2.2.2.2
      have hc0 : ckF N n (L 7).toNat 0 = (if isC (rwS N 2580 (n + (L 7).toNat - 1)) n (L 7).toNat = 0 then 6 else 4) := by unfold ckF; rw [un_at]
      have hic := isC_01 (rwS N 2580 (n + (L 7).toNat - 1)) n (L 7).toNat
      have hv : isC (rwS N 2580 (n + (L 7).toNat - 1)) n (L 7).toNat = 0 := by by_cases g : isC (rwS N 2580 (n + (L 7).toNat - 1)) n (L 7).toNat = 0; (rw [if_pos g] at hc0; omega); (rw [if_neg g] at hc0; omega)
      obtain ⟨r1, r2, r3⟩ := fin_act hKU hCU hA (Or.inl ⟨by decide, by decide⟩) hNb (by rw [hNb.2.2.1, ← hN2]; exact h26)
      exact r_iret (pc := 51) dX11_check_51 trivial (by have h := hq1 h023 n hNo.1.2.1 _ _ _ r1 (fun b b1 b2 => (r3 b b1 b2).trans (hfr b b1 b2)) r2; rw [hv] at h; exact h)
    · have c43 := Decidable.of_not_not c43
      refine r_iconst (pc := 46) dX11_check_46 (in32_of rfl) ?_
      refine r_goto (pc := 47) (tgt := 51) dX11_check_47 rfl ?_
      have hNb := NOk_ck hNo h023 (by omega) (by omega) hA.2.2.2.2.2.1 hA.2.2.2.2.2.2
      have hc0 : ckF N n (L 7).toNat 0 = (if isC (rwS N 2580 (n + (L 7).toNat - 1)) n (L 7).toNat = 0 then 6 else 4) := by unfold ckF; rw [un_at]
      have hic := isC_01 (rwS N 2580 (n + (L 7).toNat - 1)) n (L 7).toNat
      have hv : isC (rwS N 2580 (n + (L 7).toNat - 1)) n (L 7).toNat = 1 := by by_cases g : isC (rwS N 2580 (n + (L 7).toNat - 1)) n (L 7).toNat = 0; (rw [if_pos g] at hc0; omega); (rw [if_neg g] at hc0; omega)
      obtain ⟨r1, r2, r3⟩ := fin_act hKU hCU hA (Or.inl ⟨by decide, by decide⟩) hNb (by rw [hNb.2.2.1, ← hN2]; exact h26)
      exact r_iret (pc := 51) dX11_check_51 trivial (by have h := hq1 h023 n hNo.1.2.1 _ _ _ r1 (fun b b1 b2 => (r3 b b1 b2).trans (hfr b b1 b2)) r2; rw [hv] at h; exact h)
  · have c4 := bi_if.mp (Decidable.of_not_not c4)
    refine r_iconst (pc := 7) dX11_check_7 (in32_of rfl) ?_
    exact r_iret (pc := 8) dX11_check_8 trivial (hq0 (fun h => absurd (show N 0 = 2 ∨ N 0 = 3 from h) (by omega)))
theorem a_shorten {tp u e : Nat} {L Bt W P Y : Nat → Int} {A : AN} (hK : KSh T A) (hd : 7 ≤ d) (hC : KC I A tp L Bt u e W P Y N) (hw : wOk W) (hq0 : ¬ (okSh N) → Q (some (aI (-1))) T I) (hq1 : okSh N → ∀ n : Nat, N 1 = (n : Int) → lenS N n (tN N) (L 8) < 1 → ∀ (U : Sh) (K : Mi) (A2 : AN), KSh U A2 → (∀ b, 274 ≤ b → b < 291 → K b = I b) → KC K A2 tp L Bt (kaU u) ((e + 1) % 12) (kaW W N u) P Y (un N 0 6) → Q (some (aI (0))) U K) (hq2 : okSh N → ∀ n : Nat, N 1 = (n : Int) → ∀ l : Nat, lenS N n (tN N) (L 8) = (l : Int) → 1 ≤ l → ∀ (U : Sh) (K : Mi) (A2 : AN), KSh U A2 → (∀ b, 274 ≤ b → b < 291 → K b = I b) → KC K A2 tp L Bt (kaU u) ((e + 1) % 12) (kaW W N u) P Y (shZ N n l) → Q (some (aI ((l : Int)))) U K) : EvE G mX11_shorten d [aR 0] T I Q := by
  obtain ⟨⟨hL, hLp⟩, hTp, ⟨hst, htc, ⟨q, n, hNo⟩, h26⟩, hRg, hIm⟩ := id hC
  have hS := sK0 hK
  have hn2 := hNo.1.2.2.1
  have hstg := hNo.2.2.2
  have hpl := hLp
  unfold plOk at hpl
  have h6r := ok_6.mp (hNo.1.1 6)
  have h9r := ok_9.mp (hNo.1.1 9)
  have h12r := ok_12.mp (hNo.1.1 12)
  have hN2 := hNo.2.2.1
  have hq6 := hNo.1.2.2.2.1
  refine EvE.mk (lv0 := [some (aR 0)]) (Nat.le_of_ble_eq_true rfl) (by decide +kernel) rfl ?_
  refine r_aload_n (pc := 0) (i := 0) dX11_shorten_0 rfl rfl ?_
  refine r_getfr (pc := 1) (b := 9) cks dX11_shorten_1 fl_X11_34 rfl (kK0 hK) (ltK hK (by decide)) (rK0_4 hK) ?_
  refine r_getfi (pc := 4) cks dX11_shorten_4 fl_X11_126 rfl (kS0 hS) (ltS0 hS) ?_
  refine r_top (b := N 0) (hst.1.1) ?_
  refine r_iconst (pc := 7) dX11_shorten_7 (in32_of rfl) ?_
  refine r_icmp_eq (pc := 8) (tgt := 13) dX11_shorten_8 rfl (fun c8 => ?_) (fun c8 => ?_)
  · have h04 : N 0 = 4 := by omega
    refine r_aload_n (pc := 13) (i := 0) dX11_shorten_13 rfl rfl ?_
    refine r_getfr (pc := 14) (b := 24) cks dX11_shorten_14 fl_X11_41 rfl (kK0 hK) (ltK hK (by decide)) (rK0_5 hK) ?_
    refine r_aload_n (pc := 17) (i := 0) dX11_shorten_17 rfl rfl ?_
    refine r_getfr (pc := 18) (b := 9) cks dX11_shorten_18 fl_X11_34 rfl (kK0 hK) (ltK hK (by decide)) (rK0_4 hK) ?_
    refine r_callV0 (pc := 21) (d - 1) [aR 9] dX11_shorten_21 (CV.mk2 mk_X2_keep lk_X11_109) (RC.of (ltK hK (by decide)) (kK24 hK) (by decide) rfl) rfl rfl (by omega) (Nat.le_of_ble_eq_true rfl) (Nat.le_of_ble_eq_true rfl) (k_keep hK (by omega) hC hw (fun U K a hKU hfr hCU => ?_))
    refine ⟨rfl, fun _ => ?_⟩
    obtain ⟨⟨hLU, _⟩, hTpU, ⟨hstU, htcU, _⟩, hRgU, hImU⟩ := id hCU
    have hSU := sK0 hKU
    refine r_aload_n (pc := 24) (i := 0) dX11_shorten_24 rfl rfl ?_
    refine r_getfr (pc := 25) (b := 212) cks dX11_shorten_25 fl_X11_62 rfl (kK0 hKU) (ltK hKU (by decide)) (rK0_9 hKU) ?_
    refine r_aload_n (pc := 28) (i := 0) dX11_shorten_28 rfl rfl ?_
    refine r_getfr (pc := 29) (b := 9) cks dX11_shorten_29 fl_X11_34 rfl (kK0 hKU) (ltK hKU (by decide)) (rK0_4 hKU) ?_
    refine r_aload_n (pc := 32) (i := 0) dX11_shorten_32 rfl rfl ?_
    refine r_getfr (pc := 33) (b := 2) cks dX11_shorten_33 fl_X11_20 rfl (kK0 hKU) (ltK hKU (by decide)) (rK0_2 hKU) ?_
    refine r_callV0 (pc := 36) (d - 1) [aR 9, aR 2] dX11_shorten_36 (CV.mk2 mk_X0_drawFinal lk_X11_156) (RC.of (ltA0 (aK212 hKU)) (kA0 (aK212 hKU)) (by decide) rfl) rfl rfl (by omega) (Nat.le_of_ble_eq_true rfl) (Nat.le_of_ble_eq_true rfl) (k_drawFinal (a := 212) (u := 2) (n := n) (q := q) (L := L) (N := N) hSU (by omega) (pK2 hKU) hLU (by omega) hstU htcU hNo.1 hNo.2.1 hN2 (by omega) (hstg.1 (by omega)) (hstg.2.2.2 (by omega) (by omega)) (sg_of hLp) ?_ ?_)
    · intro hl0 J hA
      refine ⟨rfl, fun _ => ?_⟩
      refine r_aload_n (pc := 39) (i := 0) dX11_shorten_39 rfl rfl ?_
      refine r_getfr (pc := 40) (b := 9) cks dX11_shorten_40 fl_X11_34 rfl (kK0 hKU) (ltK hKU (by decide)) (rK0_4 hKU) ?_
      refine r_getfr (pc := 43) (b := 9 + 11) cks dX11_shorten_43 fl_X11_159 rfl (kS0 hSU) (ltS0 hSU) (rS0_13 hSU) ?_
      refine r_getfi (pc := 46) cks dX11_shorten_46 fl_X11_163 rfl (kS11 hSU) (ltS (k := 11) hSU (by omega)) ?_
      refine r_top (b := N 6) (hA.2.2.2.1.2.2.2.2.2.1.trans (un_ne (by decide))) ?_
      have hNb := NOk_6 hNo h04 hA.2.2.2.2.2.1 hA.2.2.2.2.2.2
      obtain ⟨r1, r2, r3⟩ := fin_act hKU hCU hA (Or.inr ⟨rfl, rfl⟩) hNb (by rw [hNb.2.2.1, ← hN2]; exact h26)
      exact r_iret (pc := 49) dX11_shorten_49 trivial (by have h := hq1 h04 n hNo.1.2.1 hl0 _ _ _ r1 (fun b b1 b2 => (r3 b b1 b2).trans (hfr b b1 b2)) r2; rw [hstg.1 (by omega)]; exact h)
    · intro l hl1 hl2 J hA
      refine ⟨rfl, fun _ => ?_⟩
      refine r_aload_n (pc := 39) (i := 0) dX11_shorten_39 rfl rfl ?_
      refine r_getfr (pc := 40) (b := 9) cks dX11_shorten_40 fl_X11_34 rfl (kK0 hKU) (ltK hKU (by decide)) (rK0_4 hKU) ?_
      refine r_getfr (pc := 43) (b := 9 + 11) cks dX11_shorten_43 fl_X11_159 rfl (kS0 hSU) (ltS0 hSU) (rS0_13 hSU) ?_
      refine r_getfi (pc := 46) cks dX11_shorten_46 fl_X11_163 rfl (kS11 hSU) (ltS (k := 11) hSU (by omega)) ?_
      refine r_top (b := ((l : Nat) : Int)) (hA.2.2.2.1.2.2.2.2.2.1.trans (by unfold shZ; rw [un_ne (by decide), un_at])) ?_
      have hl256 : l ≤ 256 := by have := ok_6.mp (hA.2.2.2.2.2.1.1 6); rw [show shZ N n l 6 = (l : Int) from by unfold shZ; rw [un_ne (by decide), un_at]] at this; omega
      have hNb := NOk_sh hNo h04 hl256 hA.2.2.2.2.2.1 hA.2.2.2.2.2.2
      obtain ⟨r1, r2, r3⟩ := fin_act hKU hCU hA (Or.inr ⟨rfl, rfl⟩) hNb (by rw [hNb.2.2.1, ← hN2]; exact h26)
      exact r_iret (pc := 49) dX11_shorten_49 trivial (hq2 h04 n hNo.1.2.1 l hl1 hl2 _ _ _ r1 (fun b b1 b2 => (r3 b b1 b2).trans (hfr b b1 b2)) r2)
  · refine r_iconst (pc := 11) dX11_shorten_11 (in32_of rfl) ?_
    exact r_iret (pc := 12) dX11_shorten_12 trivial (hq0 (fun h => absurd (show N 0 = 4 from h) (by omega)))
theorem a_slip {tp u e : Nat} {L Bt W P Y : Nat → Int} {A : AN} (hK : KSh T A) {x : Int} (hd : 7 ≤ d) (hC : KC I A tp L Bt u e W P Y N) (hw : wOk W) (hq0 : ¬ ((∀ n : Nat, N 1 = (n : Int) → 0 ≤ x ∧ x < (n : Int)) ∧ (1 ≤ N 0 ∧ N 0 ≤ 3)) → Q (some (aI (-1))) T I) (hq1 : ∀ k : Nat, x = (k : Int) → ∀ n : Nat, N 1 = (n : Int) → k < n → (1 ≤ N 0 ∧ N 0 ≤ 3) → ∀ (U : Sh) (K : Mi) (A2 : AN), KSh U A2 → (∀ b, 274 ≤ b → b < 291 → K b = I b) → KC K A2 tp L Bt (kaU u) ((e + 1) % 12) (kaW W N u) P Y (slF N (k : Int)) → Q (some (aI (((unl (slF N (k : Int)) n : Nat) : Int)))) U K) : EvE G mX11_slip d [aR 0, aI x] T I Q := by
  obtain ⟨⟨hL, hLp⟩, hTp, ⟨hst, htc, ⟨q, n, hNo⟩, h26⟩, hRg, hIm⟩ := id hC
  have hS := sK0 hK
  have hn2 := hNo.1.2.2.1
  have hstg := hNo.2.2.2
  have hpl := hLp
  unfold plOk at hpl
  have h6r := ok_6.mp (hNo.1.1 6)
  have h9r := ok_9.mp (hNo.1.1 9)
  have h12r := ok_12.mp (hNo.1.1 12)
  have hN2 := hNo.2.2.1
  have hq6 := hNo.1.2.2.2.1
  refine EvE.mk (lv0 := [some (aR 0), some (aI x)]) (Nat.le_of_ble_eq_true rfl) (by decide +kernel) rfl ?_
  refine r_aload_n (pc := 0) (i := 0) dX11_slip_0 rfl rfl ?_
  refine r_getfr (pc := 1) (b := 9) cks dX11_slip_1 fl_X11_34 rfl (kK0 hK) (ltK hK (by decide)) (rK0_4 hK) ?_
  refine r_getfi (pc := 4) cks dX11_slip_4 fl_X11_126 rfl (kS0 hS) (ltS0 hS) ?_
  refine r_top (b := N 0) (hst.1.1) ?_
  refine r_iconst (pc := 7) dX11_slip_7 (in32_of rfl) ?_
  refine r_icmp_lt (pc := 8) (tgt := 36) dX11_slip_8 rfl (fun c8 => ?_) (fun c8 => ?_)
  · refine r_iconst (pc := 36) dX11_slip_36 (in32_of rfl) ?_
    exact r_iret (pc := 37) dX11_slip_37 trivial (hq0 (fun h => by have h1 := h.1 n hNo.1.2.1; have h2 := h.2; omega))
  · refine r_aload_n (pc := 11) (i := 0) dX11_slip_11 rfl rfl ?_
    refine r_getfr (pc := 12) (b := 9) cks dX11_slip_12 fl_X11_34 rfl (kK0 hK) (ltK hK (by decide)) (rK0_4 hK) ?_
    refine r_getfi (pc := 15) cks dX11_slip_15 fl_X11_126 rfl (kS0 hS) (ltS0 hS) ?_
    refine r_top (b := N 0) (hst.1.1) ?_
    refine r_iconst (pc := 18) dX11_slip_18 (in32_of rfl) ?_
    refine r_icmp_gt (pc := 19) (tgt := 36) dX11_slip_19 rfl (fun c19 => ?_) (fun c19 => ?_)
    · refine r_iconst (pc := 36) dX11_slip_36 (in32_of rfl) ?_
      exact r_iret (pc := 37) dX11_slip_37 trivial (hq0 (fun h => by have h1 := h.1 n hNo.1.2.1; have h2 := h.2; omega))
    · refine r_aload_n (pc := 22) (i := 0) dX11_slip_22 rfl rfl ?_
      refine r_getfr (pc := 23) (b := 9) cks dX11_slip_23 fl_X11_34 rfl (kK0 hK) (ltK hK (by decide)) (rK0_4 hK) ?_
      refine r_getfr (pc := 26) (b := 9 + 3) cks dX11_slip_26 fl_X11_117 rfl (kS0 hS) (ltS0 hS) (rS0_11 hS) ?_
      refine r_iload_n (pc := 29) (i := 1) dX11_slip_29 rfl rfl ?_
      refine r_callV1 (pc := 30) (d - 1) [aI x] dX11_slip_30 (CV.mk2 mk_X3_has lk_X11_175) (RC.of (ltS (k := 3) hS (by omega)) (kS3 hS) (by decide) rfl) rfl rfl (by omega) (Nat.le_of_ble_eq_true rfl) (Nat.le_of_ble_eq_true rfl) (k_has (n := n) hS (hst.2.2.2.1.1.trans hNo.1.2.1) hn2 ?_)
      refine ⟨_, rfl, fun _ => ?_⟩
      refine r_if_ne (pc := 33) (tgt := 38) dX11_slip_33 rfl (fun c33 => ?_) (fun c33 => ?_)
      · have c33 := bi_1 c33
        obtain ⟨k, rfl⟩ : ∃ e : Nat, x = (e : Int) := ⟨(x).toNat, by omega⟩
        have hk : k < n := by omega
        have h0n : ¬ N 0 = 0 := by omega
        refine r_aload_n (pc := 38) (i := 0) dX11_slip_38 rfl rfl ?_
        refine r_getfr (pc := 39) (b := 24) cks dX11_slip_39 fl_X11_41 rfl (kK0 hK) (ltK hK (by decide)) (rK0_5 hK) ?_
        refine r_aload_n (pc := 42) (i := 0) dX11_slip_42 rfl rfl ?_
        refine r_getfr (pc := 43) (b := 9) cks dX11_slip_43 fl_X11_34 rfl (kK0 hK) (ltK hK (by decide)) (rK0_4 hK) ?_
        refine r_callV0 (pc := 46) (d - 1) [aR 9] dX11_slip_46 (CV.mk2 mk_X2_keep lk_X11_109) (RC.of (ltK hK (by decide)) (kK24 hK) (by decide) rfl) rfl rfl (by omega) (Nat.le_of_ble_eq_true rfl) (Nat.le_of_ble_eq_true rfl) (k_keep hK (by omega) hC hw (fun U K a hKU hfr hCU => ?_))
        refine ⟨rfl, fun _ => ?_⟩
        obtain ⟨⟨hLU, _⟩, hTpU, ⟨hstU, htcU, _⟩, hRgU, hImU⟩ := id hCU
        have hSU := sK0 hKU
        refine r_aload_n (pc := 49) (i := 0) dX11_slip_49 rfl rfl ?_
        refine r_getfr (pc := 50) (b := 9) cks dX11_slip_50 fl_X11_34 rfl (kK0 hKU) (ltK hKU (by decide)) (rK0_4 hKU) ?_
        refine r_getfr (pc := 53) (b := 9 + 3) cks dX11_slip_53 fl_X11_117 rfl (kS0 hSU) (ltS0 hSU) (rS0_11 hSU) ?_
        refine r_iload_n (pc := 56) (i := 1) dX11_slip_56 rfl rfl ?_
        refine r_callV0 (pc := 57) (d - 1) [aI ((k : Nat) : Int)] dX11_slip_57 (CV.mk2 mk_X3_turn lk_X11_179) (RC.of (ltS (k := 3) hSU (by omega)) (kS3 hSU) (by decide) rfl) rfl rfl (by omega) (Nat.le_of_ble_eq_true rfl) (Nat.le_of_ble_eq_true rfl) (k_turnN (n := n) (k := k) hSU (by omega) (hstU.2.2.2.1.1.trans hNo.1.2.1) hn2 (by omega) ?_)
        refine ⟨rfl, fun _ => ?_⟩
        refine r_mem (I2 := sr K (9 + 5) (un (K (9 + 5)) k (ixo ((K (9 + 5)) k) 1))) ((congrArg (fun v0_ => (sr K (9 + 5) (un v0_ k (ixo (v0_ k) 1)))) (show K (9 + 5) = K (9 + 5) from rfl)).trans (rfl)) ?_
        obtain ⟨x1, x2, x3⟩ := St_sl hSU hstU hNo hLp hk h0n
        obtain ⟨J, hJ⟩ : ∃ J, J = sr K (9 + 5) (un (K (9 + 5)) k (ixo ((K (9 + 5)) k) 1)) := ⟨_, rfl⟩
        rw [← hJ] at x1 ⊢
        have hfJ : frS K J 9 := fun b hb => by rw [hJ]; exact sr_ne (by omega)
        have htl : tN (slF N k) = tN N := by unfold tN slF; rw [un_ne (by omega)]
        refine r_aload_n (pc := 60) (i := 0) dX11_slip_60 rfl rfl ?_
        refine r_getfr (pc := 61) (b := 9) cks dX11_slip_61 fl_X11_34 rfl (kK0 hKU) (ltK hKU (by decide)) (rK0_4 hKU) ?_
        refine r_getfr (pc := 64) (b := 9 + 3) cks dX11_slip_64 fl_X11_117 rfl (kS0 hSU) (ltS0 hSU) (rS0_11 hSU) ?_
        refine r_callV1 (pc := 67) (d - 1) [] dX11_slip_67 (CV.mk2 mk_X3_unlike lk_X11_182) (RC.of (ltS (k := 3) hSU (by omega)) (kS3 hSU) (by decide) rfl) rfl rfl (by omega) (Nat.le_of_ble_eq_true rfl) (Nat.le_of_ble_eq_true rfl) (k_unlike (n := n) hSU (x1.2.2.2.1.1.trans x2.2.1) hn2 ?_)
        refine ⟨_, rfl, fun _ => ?_⟩
        refine r_top (b := ((unl (slF N k) n : Nat) : Int)) (St_unl x1 x2) ?_
        have hNb := NOk_sl hNo hk x2 x3
        obtain ⟨r1, r2, r3⟩ := fin_act hKU hCU (AcP.own hSU hfJ x1 (by rw [htl]; exact htcU) x2 x3) (Or.inr ⟨rfl, rfl⟩) hNb (by rw [hNb.2.2.1, ← hN2]; exact h26)
        exact r_iret (pc := 70) dX11_slip_70 trivial (hq1 k rfl n hNo.1.2.1 hk ⟨by omega, by omega⟩ _ _ _ r1 (fun b b1 b2 => (r3 b b1 b2).trans (hfr b b1 b2)) r2)
      · have c33 := bi_if.mp (Decidable.of_not_not c33)
        refine r_iconst (pc := 36) dX11_slip_36 (in32_of rfl) ?_
        exact r_iret (pc := 37) dX11_slip_37 trivial (hq0 (fun h => by have h1 := h.1 n hNo.1.2.1; have h2 := h.2; omega))
theorem a_send {tp u e : Nat} {L Bt W P Y : Nat → Int} {A : AN} (hK : KSh T A) {v : Int} (hd : 7 ≤ d) (hC : KC I A tp L Bt u e W P Y N) (hw : wOk W) (hq0 : ¬ (okSd N v) → Q (some (aI (-1))) T I) (hq1 : okSd N v → ∀ (U : Sh) (K : Mi) (A2 : AN), KSh U A2 → (∀ b, 274 ≤ b → b < 291 → K b = I b) → KC K A2 tp L Bt (kaU u) ((e + 1) % 12) (kaW W N u) P Y (sdF N v) → Q (some (aI (ixo v (byN N 3390 (uN N) 8)))) U K) : EvE G mX11_send d [aR 0, aI v] T I Q := by
  obtain ⟨⟨hL, hLp⟩, hTp, ⟨hst, htc, ⟨q, n, hNo⟩, h26⟩, hRg, hIm⟩ := id hC
  have hS := sK0 hK
  have hn2 := hNo.1.2.2.1
  have hstg := hNo.2.2.2
  have hpl := hLp
  unfold plOk at hpl
  have h6r := ok_6.mp (hNo.1.1 6)
  have h9r := ok_9.mp (hNo.1.1 9)
  have h12r := ok_12.mp (hNo.1.1 12)
  have hN2 := hNo.2.2.1
  have hq6 := hNo.1.2.2.2.1
  refine EvE.mk (lv0 := [some (aR 0), some (aI v)]) (Nat.le_of_ble_eq_true rfl) (by decide +kernel) rfl ?_
  refine r_iload_n (pc := 0) (i := 1) dX11_send_0 rfl rfl ?_
  refine r_if_lt (pc := 1) (tgt := 37) dX11_send_1 rfl (fun c1 => ?_) (fun c1 => ?_)
  · refine r_iconst (pc := 37) dX11_send_37 (in32_of rfl) ?_
    exact r_iret (pc := 38) dX11_send_38 trivial (hq0 (fun h => by obtain ⟨h1, h2, h3⟩ := h; omega))
  · refine r_iload_n (pc := 4) (i := 1) dX11_send_4 rfl rfl ?_
    refine r_sipush (pc := 5) dX11_send_5 rfl (in32_of rfl) ?_
    refine r_icmp_gt (pc := 8) (tgt := 37) dX11_send_8 rfl (fun c8 => ?_) (fun c8 => ?_)
    · refine r_iconst (pc := 37) dX11_send_37 (in32_of rfl) ?_
      exact r_iret (pc := 38) dX11_send_38 trivial (hq0 (fun h => by obtain ⟨h1, h2, h3⟩ := h; omega))
    · refine r_aload_n (pc := 11) (i := 0) dX11_send_11 rfl rfl ?_
      refine r_getfr (pc := 12) (b := 9) cks dX11_send_12 fl_X11_34 rfl (kK0 hK) (ltK hK (by decide)) (rK0_4 hK) ?_
      refine r_getfi (pc := 15) cks dX11_send_15 fl_X11_126 rfl (kS0 hS) (ltS0 hS) ?_
      refine r_top (b := N 0) (hst.1.1) ?_
      refine r_iconst (pc := 18) dX11_send_18 (in32_of rfl) ?_
      refine r_icmp_ne (pc := 19) (tgt := 37) dX11_send_19 rfl (fun c19 => ?_) (fun c19 => ?_)
      · refine r_iconst (pc := 37) dX11_send_37 (in32_of rfl) ?_
        exact r_iret (pc := 38) dX11_send_38 trivial (hq0 (fun h => by obtain ⟨h1, h2, h3⟩ := h; omega))
      · have c19 := Decidable.of_not_not c19
        refine r_aload_n (pc := 22) (i := 0) dX11_send_22 rfl rfl ?_
        refine r_getfr (pc := 23) (b := 9) cks dX11_send_23 fl_X11_34 rfl (kK0 hK) (ltK hK (by decide)) (rK0_4 hK) ?_
        refine r_getfr (pc := 26) (b := 9 + 11) cks dX11_send_26 fl_X11_159 rfl (kS0 hS) (ltS0 hS) (rS0_13 hS) ?_
        refine r_callV1 (pc := 29) (d - 1) [] dX11_send_29 (CV.mk2 mk_X1_left lk_X11_168) (RC.of (ltS (k := 11) hS (by omega)) (kS11 hS) (by decide) rfl) rfl rfl (by omega) (Nat.le_of_ble_eq_true rfl) (Nat.le_of_ble_eq_true rfl) (k_left (l := (N 6).toNat) (u := (N 9).toNat) hS (hst.2.2.2.2.2.1.trans (by omega)) (hst.2.2.2.2.2.2.1.trans (by omega)) (by omega) (by omega) ?_)
        refine ⟨_, rfl, fun _ => ?_⟩
        refine r_bipush (pc := 32) dX11_send_32 rfl (in32_of rfl) ?_
        refine r_icmp_ge (pc := 34) (tgt := 39) dX11_send_34 rfl (fun c34 => ?_) (fun c34 => ?_)
        · have h05 : N 0 = 5 := by omega
          refine r_aload_n (pc := 39) (i := 0) dX11_send_39 rfl rfl ?_
          refine r_getfr (pc := 40) (b := 24) cks dX11_send_40 fl_X11_41 rfl (kK0 hK) (ltK hK (by decide)) (rK0_5 hK) ?_
          refine r_aload_n (pc := 43) (i := 0) dX11_send_43 rfl rfl ?_
          refine r_getfr (pc := 44) (b := 9) cks dX11_send_44 fl_X11_34 rfl (kK0 hK) (ltK hK (by decide)) (rK0_4 hK) ?_
          refine r_callV0 (pc := 47) (d - 1) [aR 9] dX11_send_47 (CV.mk2 mk_X2_keep lk_X11_109) (RC.of (ltK hK (by decide)) (kK24 hK) (by decide) rfl) rfl rfl (by omega) (Nat.le_of_ble_eq_true rfl) (Nat.le_of_ble_eq_true rfl) (k_keep hK (by omega) hC hw (fun U K a hKU hfr hCU => ?_))
          refine ⟨rfl, fun _ => ?_⟩
          obtain ⟨⟨hLU, _⟩, hTpU, ⟨hstU, htcU, _⟩, hRgU, hImU⟩ := id hCU
          have hSU := sK0 hKU
          refine r_aload_n (pc := 50) (i := 0) dX11_send_50 rfl rfl ?_
          refine r_getfr (pc := 51) (b := 9) cks dX11_send_51 fl_X11_34 rfl (kK0 hKU) (ltK hKU (by decide)) (rK0_4 hKU) ?_
          refine r_getfr (pc := 54) (b := 9 + 11) cks dX11_send_54 fl_X11_159 rfl (kS0 hSU) (ltS0 hSU) (rS0_13 hSU) ?_
          refine r_iload_n (pc := 57) (i := 1) dX11_send_57 rfl rfl ?_
          refine r_callV1 (pc := 58) (d - 1) [aI v] dX11_send_58 (CV.mk2 mk_X1_useByte lk_X11_172) (RC.of (ltS (k := 11) hSU (by omega)) (kS11 hSU) (by decide) rfl) rfl rfl (by omega) (Nat.le_of_ble_eq_true rfl) (Nat.le_of_ble_eq_true rfl) (k_useByte (l := (N 6).toNat) (u := (N 9).toNat) (v := v) hSU (hstU.2.2.2.2.2.1.trans (by omega)) (hstU.2.2.2.2.2.2.1.trans (by omega)) (by omega) (by omega) ?_)
          refine ⟨_, rfl, fun _ => ?_⟩
          refine r_mem (I2 := sr K (9 + 11) (un (un (un (K (9 + 11)) 5 (cyS v (fun i => K (9 + 13) ((N 9).toNat + i)) 8)) 4 (((N 9).toNat + 8 : Nat) : Int)) 6 (ixo (cyS v (fun i => K (9 + 13) ((N 9).toNat + i)) 8) (cyS 0 (fun i => K (9 + 14) ((N 9).toNat + i)) 8)))) ((congrArg (fun v0_ => (sr K (9 + 11) (un (un (un v0_ 5 (cyS v (fun i => K (9 + 13) ((N 9).toNat + i)) 8)) 4 (((N 9).toNat + 8 : Nat) : Int)) 6 (ixo (cyS v (fun i => K (9 + 13) ((N 9).toNat + i)) 8) (cyS 0 (fun i => K (9 + 14) ((N 9).toNat + i)) 8))))) (show K (9 + 11) = K (9 + 11) from rfl)).trans (rfl)) ?_
          obtain ⟨x0, x1, x2, x3⟩ := St_sd (u := (N 9).toNat) (l := (N 6).toNat) (v := v) hSU hstU hNo hLp h05 (by omega) (by omega) (by omega) (by omega) ⟨by omega, by omega⟩
          have hNb := NOk_sd hNo h05 x2 x3
          have htl : tN (sdF N v) = tN N := by unfold tN sdF sd2 sd1; rw [un_ne (by decide), un_ne (by decide), un_ne (by decide)]
          obtain ⟨r1, r2, r3⟩ := fin_act hKU hCU (AcP.own hSU (fun b hb => sr_ne (by omega)) x1 (by rw [htl]; exact htcU) x2 x3) (Or.inr ⟨rfl, rfl⟩) hNb (by rw [hNb.2.2.1, ← hN2]; exact h26)
          exact r_iret (pc := 61) dX11_send_61 trivial (by have h := hq1 ⟨h05, ⟨by omega, by omega⟩, by omega⟩ _ _ _ r1 (fun b b1 b2 => (r3 b b1 b2).trans (hfr b b1 b2)) r2; rw [show uN N = (N 9).toNat from rfl, ← x0] at h; exact h)
        · refine r_iconst (pc := 37) dX11_send_37 (in32_of rfl) ?_
          exact r_iret (pc := 38) dX11_send_38 trivial (hq0 (fun h => by obtain ⟨h1, h2, h3⟩ := h; omega))
theorem a_undo {tp u e : Nat} {L Bt W P Y : Nat → Int} {A : AN} (hK : KSh T A) (hd : 6 ≤ d) (hC : KC I A tp L Bt u e W P Y N) (hw : wOk W) (hq0 : u = 0 → Q (some (aI (-1))) T I) (hq1 : 1 ≤ u → ∀ (U : Sh) (K : Mi) (A2 : AN), KSh U A2 → (∀ b, 274 ≤ b → b < 291 → K b = I b) → KC K A2 tp L Bt (u - 1) ((e + 11) % 12) W P Y (cpyR W (17510 * (u - 1)) N 0 ((W (17510 * (u - 1) + 3)).toNat + 3902)) → Q (some (aI ((u - 1 : Nat) : Int))) U K) : EvE G mX11_undo d [aR 0] T I Q := by
  obtain ⟨⟨hL, hLp⟩, hTp, ⟨hst, htc, ⟨q, n, hNo⟩, h26⟩, hRg, hIm⟩ := id hC
  have hS := sK0 hK
  have hn2 := hNo.1.2.2.1
  have hstg := hNo.2.2.2
  have hpl := hLp
  unfold plOk at hpl
  have h6r := ok_6.mp (hNo.1.1 6)
  have h9r := ok_9.mp (hNo.1.1 9)
  have h12r := ok_12.mp (hNo.1.1 12)
  have hN2 := hNo.2.2.1
  have hq6 := hNo.1.2.2.2.1
  refine EvE.mk (lv0 := [some (aR 0)]) (Nat.le_of_ble_eq_true rfl) (by decide +kernel) rfl ?_
  refine r_aload_n (pc := 0) (i := 0) dX11_undo_0 rfl rfl ?_
  refine r_getfr (pc := 1) (b := 24) cks dX11_undo_1 fl_X11_41 rfl (kK0 hK) (ltK hK (by decide)) (rK0_5 hK) ?_
  refine r_getfi (pc := 4) cks dX11_undo_4 fl_X11_185 rfl (kK24 hK) (ltK hK (by decide)) ?_
  refine r_top (b := ((u : Nat) : Int)) (hRg.2.1.1) ?_
  refine r_if_ne (pc := 7) (tgt := 12) dX11_undo_7 rfl (fun c7 => ?_) (fun c7 => ?_)
  · refine r_aload_n (pc := 12) (i := 0) dX11_undo_12 rfl rfl ?_
    refine r_getfr (pc := 13) (b := 24) cks dX11_undo_13 fl_X11_41 rfl (kK0 hK) (ltK hK (by decide)) (rK0_5 hK) ?_
    refine r_aload_n (pc := 16) (i := 0) dX11_undo_16 rfl rfl ?_
    refine r_getfr (pc := 17) (b := 9) cks dX11_undo_17 fl_X11_34 rfl (kK0 hK) (ltK hK (by decide)) (rK0_4 hK) ?_
    refine r_callV0 (pc := 20) (d - 1) [aR 9] dX11_undo_20 (CV.mk2 mk_X2_giveBack lk_X11_188) (RC.of (ltK hK (by decide)) (kK24 hK) (by decide) rfl) rfl rfl (by omega) (Nat.le_of_ble_eq_true rfl) (Nat.le_of_ble_eq_true rfl) (k_giveBack hK (by omega) hC (by omega) (fun U K a hKU hfr hCU => ?_))
    refine ⟨rfl, fun _ => ?_⟩
    refine r_aload_n (pc := 23) (i := 0) dX11_undo_23 rfl rfl ?_
    refine r_getfr (pc := 24) (b := 24) cks dX11_undo_24 fl_X11_41 rfl (kK0 hKU) (ltK hKU (by decide)) (rK0_5 hKU) ?_
    refine r_getfi (pc := 27) cks dX11_undo_27 fl_X11_185 rfl (kK24 hKU) (ltK hKU (by decide)) ?_
    refine r_top (b := ((u - 1 : Nat) : Int)) (hCU.2.2.2.1.2.1.1) ?_
    exact r_iret (pc := 30) dX11_undo_30 trivial (hq1 (by omega) _ _ _ hKU hfr hCU)
  · have c7 := Decidable.of_not_not c7
    refine r_iconst (pc := 10) dX11_undo_10 (in32_of rfl) ?_
    exact r_iret (pc := 11) dX11_undo_11 trivial (hq0 (by omega))
end C64
