section C62
variable {G : Gl} {d : Nat} {T : Sh} {I : Mi} {N : Nat → Int} {Q : Option AV → Sh → Mi → Prop}
theorem NOk_bg {L N : Nat → Int} (hL : plOk L) : NOk (ga1 L (L 1) N) 0 (nN (ga1 L (L 1) N)) := by
  have h1 := hL.2.1
  have g := ga_1 (N := N) hL h1.1 (by omega : L 1 < 2147483648)
  have gl := ga1_lo (L := L) (sd := L 1) (N := N)
  exact ⟨PmO_0 g.1, LdOk_0 gl.2.2.2, gl.1, fun _ => gl.2.2.1, fun _ => ⟨gl.1, gl.2.1, g.2.2⟩, fun h => absurd h (by rw [g.2.1]; decide), fun h => absurd h (by rw [g.2.1]; decide)⟩
theorem NOk_sm {N : Nat → Int} {q n s : Nat} (h : NOk N q n) (h1 : N 0 = 1) (hs : s ≤ 128) : NOk (smF N n s) 0 (nN (smF N n s)) := by
  obtain ⟨hP, hLd, hN2, s1, s2, s3, s4⟩ := h
  obtain ⟨a2, a3, a4⟩ := s2 h1
  obtain ⟨e1, e2, e3, e4, e5, e6⟩ := sm_ok (s := s) hP.1 hP.2.1 hP.2.2.1 a4 hs
  have f2 : smF N n s 2 = 0 := (e6 2 (by decide) (by decide) (by decide) (by decide) (by decide) (by omega)).trans a2
  have f3 : smF N n s 3 = 0 := (e6 3 (by decide) (by decide) (by decide) (by decide) (by decide) (by omega)).trans a3
  have f6 : smF N n s 6 = 0 := (e6 6 (by decide) (by decide) (by decide) (by decide) (by decide) (by omega)).trans (s1 (by rw [h1]; decide))
  have t0 : tN (smF N n s) = 0 := by unfold tN; rw [f3]; rfl
  exact ⟨PmO_0 e1, LdOk_0 t0, f2, fun _ => f6, fun h => absurd h (by rw [e2]; decide), fun _ => ⟨⟨e1, f2, by decide, fun p hp => absurd hp (Nat.not_lt_zero p), by rw [t0]; exact Nat.zero_le _⟩, No2_0 t0⟩, fun _ _ => e3⟩
theorem NOk_ps {N : Nat → Int} {q n B : Nat} (h : NOk N q n) (h0 : N 0 = 2 ∨ N 0 = 3) (hq : q < 6) (hB : 2 ≤ B) (hP : PmO (psF B N) (q + 1) n) (hLd : LdOk (psF B N) (q + 1) n) : NOk (psF B N) (q + 1) n := by
  obtain ⟨_, _, hN2, s1, s2, s3, s4⟩ := h
  obtain ⟨hp, hno⟩ := s3 h0
  obtain ⟨g1, g2, g3⟩ := ps_ne hB hp hq
  refine ⟨hP, hLd, g1.2.1, fun _ => ?_, fun h => absurd h (by rw [g2]; decide), fun _ => ⟨g1, No2_psF hB hp.1 hN2 hq hno⟩, fun _ _ => ?_⟩
  · rw [g3 6 (by decide) (by decide) (by decide) (by decide) (by decide) (by decide) (by omega) (by omega)]; exact s1 (by omega)
  · rw [g3 5 (by decide) (by decide) (by decide) (by decide) (by decide) (by decide) (by omega) (by omega)]; exact s4 (by omega) (by omega)
theorem NOk_wn {N : Nat → Int} {q n : Nat} (h : NOk N q n) (h0 : N 0 = 2 ∨ N 0 = 3) (h12 : N 12 + 1 ≤ 8) (hP : PmO (wnF N n) q n) (hLd : LdOk (wnF N n) q n) : NOk (wnF N n) q n := by
  obtain ⟨hP0, _, hN2, s1, s2, s3, s4⟩ := h
  obtain ⟨hp, hno⟩ := s3 h0
  have hn2 := hP0.2.2.1
  have hq6 := hP0.2.2.2.1
  have h12b := ok_12.mp (hP0.1 12)
  have htl := tlB_le q hq6 (N 12).toNat (by omega)
  have hpt := hp.2.2.2.2
  have htb : tN N + 4 * (n / 8) ≤ 13608 := by
    have e : tlB q ((N 12).toNat + 1) = tlB q (N 12).toNat + 128 := by unfold tlB; omega
    have := tlB_le q hq6 ((N 12).toNat + 1) (by omega)
    omega
  have hw := wnS_ok hP0.1 (n / 8) (by omega) htb
  have e : ∀ j, j ≠ 12 → j ≠ 0 → wnF N n j = wnS N (n / 8) j := fun j a b => by unfold wnF; rw [un_ne b, un_ne a]
  have f0 : wnF N n 0 = 3 := by unfold wnF; rw [un_at]
  have f12 : wnF N n 12 = N 12 + 1 := by unfold wnF; rw [un_ne (by decide), un_at]
  have f2 : wnF N n 2 = (q : Int) := by rw [e 2 (by decide) (by decide), hw.2.2.2 2 (by decide) (by decide) (by decide) (by omega)]; exact hN2
  have ft : tN (wnF N n) = tN (wnS N (n / 8)) := by unfold tN; rw [e 3 (by decide) (by decide)]
  refine ⟨hP, hLd, f2, fun _ => ?_, fun h => absurd h (by rw [f0]; decide), fun _ => ⟨⟨hP.1, f2, hq6, fun p hp2 k hk => ?_, ?_⟩, No2_wnF hn2 hno⟩, fun _ _ => ?_⟩
  · rw [e 6 (by decide) (by decide), hw.2.2.2 6 (by decide) (by decide) (by decide) (by omega)]; exact s1 (by omega)
  · rw [hP.nn] at hk ⊢
    exact hP.2.2.2.2.1 p hp2 k hk
  · rw [ft, f12, show (N 12 + 1).toNat = (N 12).toNat + 1 by omega]
    have e2 : tlB q ((N 12).toNat + 1) = tlB q (N 12).toNat + 128 := by unfold tlB; omega
    have := hw.2.1
    omega
  · rw [e 5 (by decide) (by decide), hw.2.2.2 5 (by decide) (by decide) (by decide) (by omega)]; exact s4 (by omega) (by omega)
theorem NOk_ck {N : Nat → Int} {q n h : Nat} (hN : NOk N q n) (h0 : N 0 = 2 ∨ N 0 = 3) (hh : h ≤ 30) (ht : tN N + h ≤ 13608) (hP : PmO (ckF N n h) q n) (hLd : LdOk (ckF N n h) q n) : NOk (ckF N n h) q n := by
  obtain ⟨hP0, _, hN2, s1, s2, s3, s4⟩ := hN
  obtain ⟨k1, k2, k3, k4⟩ := ck_ok hP0.1 hP0.2.2.1 hh ht
  have f6 : ckF N n h 6 = 0 := by rw [k4 6 (by decide) (by decide) (by decide) (by decide) (by omega)]; exact s1 (by omega)
  refine ⟨hP, hLd, by rw [k4 2 (by decide) (by decide) (by decide) (by decide) (by omega)]; exact hN2, fun _ => f6, fun h => absurd h (by omega), fun h => absurd h (by omega), fun _ _ => ?_⟩
  rw [k4 5 (by decide) (by decide) (by decide) (by decide) (by omega)]; exact s4 (by omega) (by omega)
theorem shZ_5 {N : Nat → Int} {n l j : Nat} (hR : Rng N) (hn : n ≤ 256) (hl : l ≤ 256) (hj : j < 2870) (h0 : j ≠ 0) (h6 : j ≠ 6) (h8 : j ≠ 8) : shZ N n l j = N j := by
  unfold shZ
  rw [un_ne h0, un_ne h6, laS_lo l j (by omega) (by omega)]
  exact (rwS_ok (r := 2870) hR (by decide) (n + l - 1) (by omega)).2 j h8 (Or.inl hj)
theorem NOk_sh {N : Nat → Int} {q n l : Nat} (h : NOk N q n) (h0 : N 0 = 4) (hl : l ≤ 256) (hP : PmO (shZ N n l) q n) (hLd : LdOk (shZ N n l) q n) : NOk (shZ N n l) q n := by
  obtain ⟨hP0, _, hN2, s1, s2, s3, s4⟩ := h
  have f0 : shZ N n l 0 = 5 := by unfold shZ; rw [un_at]
  refine ⟨hP, hLd, by rw [shZ_5 hP0.1 hP0.2.2.1 hl (by decide) (by decide) (by decide) (by decide)]; exact hN2, fun h => absurd f0 h, fun h => absurd h (by rw [f0]; decide), fun h => absurd h (by rw [f0]; decide), fun _ _ => ?_⟩
  rw [shZ_5 hP0.1 hP0.2.2.1 hl (by decide) (by decide) (by decide) (by decide)]; exact s4 (by omega) (by omega)
theorem NOk_6 {N : Nat → Int} {q n : Nat} (h : NOk N q n) (h0 : N 0 = 4) (hP : PmO (un N 0 6) q n) (hLd : LdOk (un N 0 6) q n) : NOk (un N 0 6) q n := by
  obtain ⟨hP0, _, hN2, s1, s2, s3, s4⟩ := h
  exact ⟨hP, hLd, by rw [un_ne (by decide)]; exact hN2, fun _ => by rw [un_ne (by decide)]; exact s1 (by omega), fun h => absurd h (by rw [un_at]; decide), fun h => absurd h (by rw [un_at]; decide), fun _ h => absurd h (by rw [un_at]; decide)⟩
/-- an act is done: the State stands for the new row -/
theorem fin_act {U V : Sh} {K J : Mi} {A : AN} {tp u e p2 o2 t2 c2 q n z w : Nat} {L Bt W P Y N N2 : Nat → Int} (hK : KSh U A) (hC : KC K A tp L Bt u e W P Y N) (hA : AcP U V K J 9 (A 0).1 (A 0).2.1 (A 0).2.2.1 (A 0).2.2.2 p2 o2 t2 c2 L N2 q n z w) (hz : (208 ≤ z ∧ z + w ≤ 219) ∨ w = 0 ∧ z = 0) (hNo : NOk N2 q n) (h26 : N2 2 ≤ L 6) :
   KSh V (upA A 0 (p2, o2, t2, c2)) ∧ KC J (upA A 0 (p2, o2, t2, c2)) tp L Bt u e W P Y N2 ∧ ∀ b, 274 ≤ b → b < 291 → J b = K b := by
  obtain ⟨r1, r2⟩ := KC_now hK hC hA.P hz ⟨hA.2.2.2.1, hA.2.2.2.2.1, ⟨q, n, hNo⟩, h26⟩
  exact ⟨r1, r2, fun b b1 b2 => hA.fr (sK0 hK) b2 (by omega) (by omega)⟩
theorem AcP.own {U : Sh} {K J : Mi} {p o t c q n : Nat} {L M : Nat → Int} (hS : ShS U 9 p o t c) (hf : frS K J 9) (hst : StR L J 9 p o t M) (htc : tN M ≤ c) (hP : PmO M q n) (hLd : LdOk M q n) : AcP U U K J 9 p o t c p o t c L M q n 0 0 := ⟨hS, ⟨Ext.id _ _ _, Or.inl rfl, Or.inl rfl, Or.inl rfl⟩, fun b _ bs _ _ _ _ => hf b bs, hst, htc, hP, hLd⟩
theorem a_begin {tp u e : Nat} {L Bt W P Y : Nat → Int} {A : AN} (hK : KSh T A) (hd : 5 ≤ d) (hC : KC I A tp L Bt u e W P Y N) (hw : wOk W) (hq1 : ∀ (U : Sh) (K : Mi) (A2 : AN), KSh U A2 → (∀ b, 274 ≤ b → b < 291 → K b = I b) → KC K A2 tp L Bt (kaU u) ((e + 1) % 12) (kaW W N u) P Y (ga1 L (L 1) N) → Q (some (aI (((nN (ga1 L (L 1) N) : Nat) : Int)))) U K) : EvE G mX11_begin d [aR 0] T I Q := by
  obtain ⟨⟨hL, hLp⟩, hTp, ⟨hst, htc, ⟨q, n, hNo⟩, h26⟩, hRg, hIm⟩ := id hC
  have hS := sK0 hK
  have hn2 := hNo.1.2.2.1
  have hstg := hNo.2.2.2
  have hpl := hLp
  unfold plOk at hpl
  have h6r := ok_6.mp (hNo.1.1 6)
  have h9r := ok_9.mp (hNo.1.1 9)
  have h12r := ok_12.mp (hNo.1.1 12)
  have hN2 := hNo.2.2.1
  have hq6 := hNo.1.2.2.2.1
  refine EvE.mk (lv0 := [some (aR 0)]) (Nat.le_of_ble_eq_true rfl) (by decide +kernel) rfl ?_
  refine r_aload_n (pc := 0) (i := 0) dX11_begin_0 rfl rfl ?_
  refine r_getfr (pc := 1) (b := 24) cks dX11_begin_1 fl_X11_41 rfl (kK0 hK) (ltK hK (by decide)) (rK0_5 hK) ?_
  refine r_aload_n (pc := 4) (i := 0) dX11_begin_4 rfl rfl ?_
  refine r_getfr (pc := 5) (b := 9) cks dX11_begin_5 fl_X11_34 rfl (kK0 hK) (ltK hK (by decide)) (rK0_4 hK) ?_
  refine r_callV0 (pc := 8) (d - 1) [aR 9] dX11_begin_8 (CV.mk2 mk_X2_keep lk_X11_109) (RC.of (ltK hK (by decide)) (kK24 hK) (by decide) rfl) rfl rfl (by omega) (Nat.le_of_ble_eq_true rfl) (Nat.le_of_ble_eq_true rfl) (k_keep hK (by omega) hC hw (fun U K a hKU hfr hCU => ?_))
  refine ⟨rfl, fun _ => ?_⟩
  obtain ⟨⟨hLU, _⟩, hTpU, ⟨hstU, htcU, _⟩, hRgU, hImU⟩ := id hCU
  have hSU := sK0 hKU
  refine r_aload_n (pc := 11) (i := 0) dX11_begin_11 rfl rfl ?_
  refine r_getfr (pc := 12) (b := 212) cks dX11_begin_12 fl_X11_62 rfl (kK0 hKU) (ltK hKU (by decide)) (rK0_9 hKU) ?_
  refine r_aload_n (pc := 15) (i := 0) dX11_begin_15 rfl rfl ?_
  refine r_getfr (pc := 16) (b := 9) cks dX11_begin_16 fl_X11_34 rfl (kK0 hKU) (ltK hKU (by decide)) (rK0_4 hKU) ?_
  refine r_aload_n (pc := 19) (i := 0) dX11_begin_19 rfl rfl ?_
  refine r_getfr (pc := 20) (b := 2) cks dX11_begin_20 fl_X11_20 rfl (kK0 hKU) (ltK hKU (by decide)) (rK0_2 hKU) ?_
  refine r_callV0 (pc := 23) (d - 1) [aR 9, aR 2] dX11_begin_23 (CV.mk2 mk_X0_drawSignals lk_X11_113) (RC.of (ltA0 (aK212 hKU)) (kA0 (aK212 hKU)) (by decide) rfl) rfl rfl (by omega) (Nat.le_of_ble_eq_true rfl) (Nat.le_of_ble_eq_true rfl) (k_drawSignals (a := 212) (u := 2) (L := L) (N := N) hSU (by omega) (pK2 hKU) (by omega) hLU (by unfold plO1; omega) (fun K2 hf2 hst2 => ?_))
  refine ⟨rfl, fun _ => ?_⟩
  have hNb := NOk_bg (N := N) hLp
  refine r_aload_n (pc := 26) (i := 0) dX11_begin_26 rfl rfl ?_
  refine r_getfr (pc := 27) (b := 9) cks dX11_begin_27 fl_X11_34 rfl (kK0 hKU) (ltK hKU (by decide)) (rK0_4 hKU) ?_
  refine r_getfr (pc := 30) (b := 9 + 3) cks dX11_begin_30 fl_X11_117 rfl (kS0 hSU) (ltS0 hSU) (rS0_11 hSU) ?_
  refine r_getfi (pc := 33) cks dX11_begin_33 fl_X11_121 rfl (kS3 hSU) (ltS (k := 3) hSU (by omega)) ?_
  refine r_top (b := ((nN (ga1 L (L 1) N) : Nat) : Int)) (hst2.2.2.2.1.1.trans (nN_rd hNb.1.1)) ?_
  obtain ⟨r1, r2, r3⟩ := fin_act hKU hCU (AcP.own hSU hf2 hst2 (by rw [(ga1_lo (L := L) (sd := L 1) (N := N)).2.2.2]; exact Nat.zero_le _) hNb.1 hNb.2.1) (Or.inr ⟨rfl, rfl⟩) hNb (by rw [hNb.2.2.1]; omega)
  exact r_iret (pc := 36) dX11_begin_36 trivial (hq1 _ _ _ r1 (fun b b1 b2 => (r3 b b1 b2).trans (hfr b b1 b2)) r2)
theorem a_sample {tp u e : Nat} {L Bt W P Y : Nat → Int} {A : AN} (hK : KSh T A) (hd : 5 ≤ d) (hC : KC I A tp L Bt u e W P Y N) (hw : wOk W) (hq0 : ¬ (okSm N) → Q (some (aI (-1))) T I) (hq1 : okSm N → ∀ n : Nat, N 1 = (n : Int) → ∀ (U : Sh) (K : Mi) (A2 : AN), KSh U A2 → (∀ b, 274 ≤ b → b < 291 → K b = I b) → KC K A2 tp L Bt (kaU u) ((e + 1) % 12) (kaW W N u) P Y (smF N n (L 4).toNat) → Q (some (aI (smF N n (L 4).toNat 4))) U K) : EvE G mX11_sample d [aR 0] T I Q := by
  obtain ⟨⟨hL, hLp⟩, hTp, ⟨hst, htc, ⟨q, n, hNo⟩, h26⟩, hRg, hIm⟩ := id hC
  have hS := sK0 hK
  have hn2 := hNo.1.2.2.1
  have hstg := hNo.2.2.2
  have hpl := hLp
  unfold plOk at hpl
  have h6r := ok_6.mp (hNo.1.1 6)
  have h9r := ok_9.mp (hNo.1.1 9)
  have h12r := ok_12.mp (hNo.1.1 12)
  have hN2 := hNo.2.2.1
  have hq6 := hNo.1.2.2.2.1
  refine EvE.mk (lv0 := [some (aR 0)]) (Nat.le_of_ble_eq_true rfl) (by decide +kernel) rfl ?_
  refine r_aload_n (pc := 0) (i := 0) dX11_sample_0 rfl rfl ?_
  refine r_getfr (pc := 1) (b := 9) cks dX11_sample_1 fl_X11_34 rfl (kK0 hK) (ltK hK (by decide)) (rK0_4 hK) ?_
  refine r_getfi (pc := 4) cks dX11_sample_4 fl_X11_126 rfl (kS0 hS) (ltS0 hS) ?_
  refine r_top (b := N 0) (hst.1.1) ?_
  refine r_iconst (pc := 7) dX11_sample_7 (in32_of rfl) ?_
  refine r_icmp_eq (pc := 8) (tgt := 13) dX11_sample_8 rfl (fun c8 => ?_) (fun c8 => ?_)
  · have h01 : N 0 = 1 := by omega
    refine r_aload_n (pc := 13) (i := 0) dX11_sample_13 rfl rfl ?_
    refine r_getfr (pc := 14) (b := 24) cks dX11_sample_14 fl_X11_41 rfl (kK0 hK) (ltK hK (by decide)) (rK0_5 hK) ?_
    refine r_aload_n (pc := 17) (i := 0) dX11_sample_17 rfl rfl ?_
    refine r_getfr (pc := 18) (b := 9) cks dX11_sample_18 fl_X11_34 rfl (kK0 hK) (ltK hK (by decide)) (rK0_4 hK) ?_
    refine r_callV0 (pc := 21) (d - 1) [aR 9] dX11_sample_21 (CV.mk2 mk_X2_keep lk_X11_109) (RC.of (ltK hK (by decide)) (kK24 hK) (by decide) rfl) rfl rfl (by omega) (Nat.le_of_ble_eq_true rfl) (Nat.le_of_ble_eq_true rfl) (k_keep hK (by omega) hC hw (fun U K a hKU hfr hCU => ?_))
    refine ⟨rfl, fun _ => ?_⟩
    obtain ⟨⟨hLU, _⟩, hTpU, ⟨hstU, htcU, _⟩, hRgU, hImU⟩ := id hCU
    have hSU := sK0 hKU
    refine r_aload_n (pc := 24) (i := 0) dX11_sample_24 rfl rfl ?_
    refine r_getfr (pc := 25) (b := 212) cks dX11_sample_25 fl_X11_62 rfl (kK0 hKU) (ltK hKU (by decide)) (rK0_9 hKU) ?_
    refine r_aload_n (pc := 28) (i := 0) dX11_sample_28 rfl rfl ?_
    refine r_getfr (pc := 29) (b := 9) cks dX11_sample_29 fl_X11_34 rfl (kK0 hKU) (ltK hKU (by decide)) (rK0_4 hKU) ?_
    refine r_aload_n (pc := 32) (i := 0) dX11_sample_32 rfl rfl ?_
    refine r_getfr (pc := 33) (b := 2) cks dX11_sample_33 fl_X11_20 rfl (kK0 hKU) (ltK hKU (by decide)) (rK0_2 hKU) ?_
    refine r_callV0 (pc := 36) (d - 1) [aR 9, aR 2] dX11_sample_36 (CV.mk2 mk_X0_tellSample lk_X11_129) (RC.of (ltA0 (aK212 hKU)) (kA0 (aK212 hKU)) (by decide) rfl) rfl rfl (by omega) (Nat.le_of_ble_eq_true rfl) (Nat.le_of_ble_eq_true rfl) (k_tellSample (a := 212) (u := 2) (n := n) (sn := (L 4).toNat) (L := L) (N := N) hSU (by omega) (pK2 hKU) (by omega) hLU (by unfold plO1; omega) hNo.1.1 hNo.1.2.1 hn2 rfl h01 (hstg.2.1 h01).1 (hstg.2.1 h01).2.1 (hstg.2.1 h01).2.2 (hstg.1 (by omega)) hstU (fun K2 hf2 hst2 => ?_))
    refine ⟨rfl, fun _ => ?_⟩
    refine r_aload_n (pc := 39) (i := 0) dX11_sample_39 rfl rfl ?_
    refine r_getfr (pc := 40) (b := 9) cks dX11_sample_40 fl_X11_34 rfl (kK0 hKU) (ltK hKU (by decide)) (rK0_4 hKU) ?_
    refine r_getfi (pc := 43) cks dX11_sample_43 fl_X11_132 rfl (kS0 hSU) (ltS0 hSU) ?_
    refine r_top (b := smF N n (L 4).toNat 4) (hst2.1.2.2.2.2.1) ?_
    have hNb := NOk_sm (s := (L 4).toNat) hNo h01 (by omega)
    have ht0 : tN (smF N n (L 4).toNat) = 0 := by have := (sm_ok (s := (L 4).toNat) hNo.1.1 hNo.1.2.1 hn2 (hstg.2.1 h01).2.2 (by omega)).2.2.2.2.2 3 (by decide) (by decide) (by decide) (by decide) (by decide) (by omega); unfold tN; rw [this, (hstg.2.1 h01).2.1]; rfl
    obtain ⟨r1, r2, r3⟩ := fin_act hKU hCU (AcP.own hSU hf2 hst2 (by rw [ht0]; exact Nat.zero_le _) hNb.1 hNb.2.1) (Or.inr ⟨rfl, rfl⟩) hNb (by rw [hNb.2.2.1]; omega)
    exact r_iret (pc := 46) dX11_sample_46 trivial (hq1 h01 n hNo.1.2.1 _ _ _ r1 (fun b b1 b2 => (r3 b b1 b2).trans (hfr b b1 b2)) r2)
  · refine r_iconst (pc := 11) dX11_sample_11 (in32_of rfl) ?_
    exact r_iret (pc := 12) dX11_sample_12 trivial (hq0 (fun h => absurd (show N 0 = 1 from h) (by omega)))
end C62
