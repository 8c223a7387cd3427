section C34
variable {G : Gl} {d : Nat} {T : Sh} {I : Mi} {N : Nat → Int} {Q : Option AV → Sh → Mi → Prop}
theorem bX_8 : ∀ j : Nat, j ≤ 3 → (bX j < 8 ↔ j < 3) := by decide
theorem wn_end {T : Sh} {I : Mi} {s m p o t c n q : Nat} {E : WE} {L N : Nat → Int} (hS : ShS T s p o t c) (hm : m + 4 ≤ 291) (hdm : m + 4 ≤ s ∨ s + 15 ≤ m) (hst : StR L I s p o t N) (hP0 : PmO N q n) (hN2 : N 2 = (q : Int)) (hN0 : ¬ N 0 = 0) (hN6 : N 6 = 0) (hLs : (sgV L N).toNat ≤ 256) (hn12 : N 12 + 1 ≤ 8)
   (hw : Rng (wnS N (n / 8)) ∧ tN (wnS N (n / 8)) ≤ tN N + 4 * (n / 8) ∧ tN N ≤ tN (wnS N (n / 8)) ∧ sameM N (wnS N (n / 8))) (h : WnI T I s m p o t c E (wnS N (n / 8)) n q) :
   AcP T E.1 I (sr E.2.1 s (un (un (E.2.1 s) 7 (N 12 + 1)) 0 3)) s p o t c E.2.2.1 E.2.2.2.1 E.2.2.2.2.1 E.2.2.2.2.2 L (wnF N n) q n m 4 := by
  obtain ⟨h1, ⟨h2, h3⟩, ⟨h6, h7⟩, h8, h9⟩ := h
  have hnx := hS.1.2.1
  have hs0 := hS.1.1
  have h12 := ok_12.mp (hP0.1 12)
  obtain ⟨M, hM⟩ : ∃ M, M = wnS N (n / 8) := ⟨_, rfl⟩
  rw [← hM] at h1 h2 h3 hw
  have eW : wnF N n = un (un M 12 (N 12 + 1)) 0 3 := by unfold wnF; rw [← hM]
  rw [eW]
  obtain ⟨K, hK⟩ : ∃ K, K = sr E.2.1 s (un (un (E.2.1 s) 7 (N 12 + 1)) 0 3) := ⟨_, rfl⟩
  rw [← hK]
  have fs : K s = un (un (E.2.1 s) 7 (N 12 + 1)) 0 3 := by rw [hK, sr_row]
  have f0 : ∀ b, b ≠ s → K b = E.2.1 b := fun b hb => by rw [hK, sr_ne hb]
  have hR : Rng (un (un M 12 (N 12 + 1)) 0 3) := Rng_un (Rng_un h2.1 (ok_12.mpr (by omega))) (ok_0.mpr (by omega))
  have hM2 : ∀ j, j ≠ 0 → j ≠ 12 → un (un M 12 (N 12 + 1)) 0 3 j = M j := fun j a b => by rw [un_ne a, un_ne b]
  have hP2 : PmO (un (un M 12 (N 12 + 1)) 0 3) q n := PmO_o h2 hR (hM2 1 (by decide) (by decide)) (fun j a b => hM2 j (by omega) (by omega))
  have ht : tN (un (un M 12 (N 12 + 1)) 0 3) = tN M := by unfold tN; rw [hM2 3 (by decide) (by decide)]
  have hL2 : LdOk (un (un M 12 (N 12 + 1)) 0 3) q n := LdOk_c h3 ht (fun k _ => hM2 _ (by omega) (by omega))
  have ql := ne_sk h1.1 (k := 0) (by decide) (by decide) (by decide) (by decide)
  have hW : MwR E.1 K s E.2.2.1 E.2.2.2.1 E.2.2.2.2.1 E.2.2.2.2.2 (un (un M 12 (N 12 + 1)) 0 3) q n := by
    obtain ⟨m1, m2, m3, m4, m5, m6⟩ := h1
    refine ⟨m1, ⟨by rw [f0 _ (by omega)]; exact m2.1, fun k hk => by rw [f0 _ (by omega), f0 _ (by omega), hM2 _ (by omega) (by omega), hM2 _ (by omega) (by omega)]; exact m2.2 k hk⟩, fun y hy k hk => by rw [f0 _ (by omega), hM2 _ (by omega) (by omega)]; exact m3 y hy k hk, ⟨by rw [f0 _ (by omega), hM2 3 (by decide) (by decide)]; exact m4.1, fun k hk => ?_⟩, by rw [fs, un_ne (by decide), un_ne (by decide), hM2 7 (by decide) (by decide)]; exact m5, by rw [ht]; exact m6⟩
    rw [ht] at hk
    have g1 := LdE_mv (K := K) (p2 := E.2.2.1) (o2 := E.2.2.2.1) (t2 := E.2.2.2.2.1) (m4.2 k hk) (by rw [f0 _ ql.1]) (by rw [f0 _ ql.2.1]) (fun j hj => by rw [f0 _ ql.2.2])
    exact LdE_ext g1 (h3 k hk) h2.2.2.2.1 h2.nn h2.2.2.1 hP2.nn (hM2 _ (by omega) (by omega)) (fun y i hy hi => by unfold oP; rw [hM2 _ (by omega) (by omega)]) (fun j j1 j2 => hM2 _ (by omega) (by omega))
  have fI : ∀ k, k = 1 ∨ k = 6 ∨ k = 11 → K (s + k) = I (s + k) := fun k hk => by
    have g := ne_sk hS (k := k) (by omega) (by omega) (by omega) (by omega)
    exact (f0 _ (by omega)).trans (h8 _ (by omega) (by omega) (by omega) (by omega) (Ne.symm g.1) (Ne.symm g.2.1) (Ne.symm g.2.2) (ne_ms hdm (by omega) (by decide)))
  have hx : StR L K s E.2.2.1 E.2.2.2.1 E.2.2.2.2.1 (un (un M 12 (N 12 + 1)) 0 3) := by
    refine St_mk (T := T) (U := E.1) hst hP0 hN0 hN6 hLs hW hP2 (by rw [un_at]; decide) (by rw [hM2 2 (by decide) (by decide), hw.2.2.2 2 (by decide) (by decide) (by decide) (by omega)]; exact hN2) fI (fun j a b c e f g i k l => by rw [hM2 j b k]; exact hw.2.2.2 j (by omega) f g l) (by rw [fs, un_at, un_at]) ?_ ?_ ?_ (fun j hj => ?_)
    · rw [fs, un_ne (by decide), un_ne (by decide), h9 1 (by decide), hM2 8 (by decide) (by decide), hw.2.2.2 8 (by decide) (by decide) (by decide) (by omega)]; exact hst.1.2.1
    · rw [fs, un_ne (by decide), un_ne (by decide), h9 6 (by decide), hM2 2 (by decide) (by decide), hw.2.2.2 2 (by decide) (by decide) (by decide) (by omega)]; exact hst.1.2.2.2.2.2.2.1
    · rw [fs, un_ne (by decide), un_at, un_ne (by decide), un_at]
    · rw [fs, un_ne (by omega), un_ne (by omega)]; exact h9 j (by omega)
  exact ⟨h1.1, ⟨h6, h7⟩, fun b b0 bs bp bo bt bz => (f0 b (by omega)).trans (h8 b b0 (by omega) (by omega) (by omega) bp bo bt (by omega)), hx, by rw [ht]; exact h1.2.2.2.2.2, hP2, hL2⟩
theorem k_winnowEights {m n q : Nat} {L : Nat → Int} {s p o t c : Nat} (hS : ShS T s p o t c) (hd : 4 ≤ d) (hD : ShD T m) (hdm : m + 4 ≤ s ∨ s + 15 ≤ m) (hst : StR L I s p o t N) (htc : tN N ≤ c) (hP0 : PmO N q n) (hLd : LdOk N q n) (hN2 : N 2 = (q : Int)) (hN0 : ¬ N 0 = 0) (hN6 : N 6 = 0) (hn12 : N 12 + 1 ≤ 8) (hLs : (sgV L N).toNat ≤ 256) (ht : tN N + 128 ≤ 13608) (hq : ∀ (U : Sh) (K : Mi) (p2 o2 t2 c2 : Nat), AcP T U I K s p o t c p2 o2 t2 c2 L (wnF N n) q n m 4 → Q (some (aI ((wnC N (n / 8) : Nat) : Int))) U K) : EvE G mX5_winnowEights d [aR m, aR s] T I Q := by
  have hm0 := hD.1
  have hn2 := hP0.2.2.1
  have hnx := hS.1.2.1
  have hW0 : WnI T I s m p o t c (T, I, p, o, t, c) N n q := ⟨St_Mw hS hst htc hP0 hN2, ⟨hP0, hLd⟩, ⟨Ext.id _ _ _, Or.inl rfl, Or.inl rfl, Or.inl rfl⟩, fun _ _ _ _ _ _ _ _ _ => rfl, fun _ _ => rfl⟩
  refine EvE.mk (lv0 := [some (aR m), some (aR s), none, none, none, none]) (Nat.le_of_ble_eq_true rfl) (by decide +kernel) rfl ?_
  refine r_aload_n (pc := 0) (i := 1) dX5_winnowEights_0 rfl rfl ?_
  refine r_getfi (pc := 1) cks dX5_winnowEights_1 fl_X5_37 rfl (kS0 hS) (ltS0 hS) ?_
  refine r_top (b := N 7) (hst.1.2.2.2.2.2.2.2.2) ?_
  refine r_istore_n (pc := 4) (i := 2) (lv' := [_, _, _, _, _, _]) dX5_winnowEights_4 rfl (by decide) rfl ?_
  refine r_iconst (pc := 5) dX5_winnowEights_5 (in32_of rfl) ?_
  refine r_istore_n (pc := 6) (i := 3) (lv' := [_, _, _, _, _, _]) dX5_winnowEights_6 rfl (by decide) rfl ?_
  refine loop2 (fun (e : Nat) (E : WE) => e ≤ n / 8 ∧ WnI T I s m p o t c E (wnS N e) n q) (fun (e : Nat) (E : WE) => n / 8 - e) (fun (e : Nat) (E : WE) => [some (aR m), some (aR s), some (aI (N 7)), some (aI ((8 * e : Nat) : Int)), none, none]) (fun (e : Nat) (E : WE) => E.1) (fun (e : Nat) (E : WE) => E.2.1) ?_ 0 (T, I, p, o, t, c) ⟨Nat.zero_le _, hW0⟩
  intro e E hP ih
  have hP : e ≤ n / 8 ∧ WnI T I s m p o t c E (wnS N e) n q := hP
  have hSE := hP.2.1.1
  have hDE := ShD_ext hD hP.2.2.2.1.1 hdm
  have hwn := wnS_ok hP0.1 e (by omega) (by omega)
  refine (?_ : Ev G mX5_winnowEights d 7 [some (aR m), some (aR s), some (aI (N 7)), some (aI ((8 * e : Nat) : Int)), none, none] [] E.1 E.2.1 Q)
  refine r_iload_n (pc := 7) (i := 3) dX5_winnowEights_7 rfl rfl ?_
  refine r_bipush (pc := 8) dX5_winnowEights_8 rfl (in32_of rfl) ?_
  refine r_iaddN (pc := 10) (c := ((8 * e + 8 : Nat) : Int)) dX5_winnowEights_10 (by unfold w32; omega) ?_
  refine r_aload_n (pc := 11) (i := 1) dX5_winnowEights_11 rfl rfl ?_
  refine r_getfr (pc := 12) (b := s + 3) cks dX5_winnowEights_12 fl_X5_48 rfl (kS0 hSE) (ltS0 hSE) (rS0_11 hSE) ?_
  refine r_getfi (pc := 15) cks dX5_winnowEights_15 fl_X5_52 rfl (kS3 hSE) (ltS (k := 3) hSE (by omega)) ?_
  refine r_top (b := (n : Int)) (hP.2.1.2.1.1) ?_
  refine r_icmp_gt (pc := 18) (tgt := 102) dX5_winnowEights_18 rfl (fun c18 => ?_) (fun c18 => ?_)
  · refine r_aload_n (pc := 102) (i := 1) dX5_winnowEights_102 rfl rfl ?_
    refine r_dup (pc := 103) dX5_winnowEights_103 rfl ?_
    refine r_getfi (pc := 104) cks dX5_winnowEights_104 fl_X5_121 rfl (kS0 hSE) (ltS0 hSE) ?_
    refine r_top (b := N 12) ((hP.2.2.2.2.2 7 (by decide)).trans hst.1.2.2.2.2.2.2.2.1) ?_
    refine r_iconst (pc := 107) dX5_winnowEights_107 (in32_of rfl) ?_
    refine r_iaddN (pc := 108) (c := (N 12 + 1)) dX5_winnowEights_108 (by have := ok_12.mp (hP0.1 12); unfold w32; omega) ?_
    refine r_putfi (pc := 109) cks dX5_winnowEights_109 fl_X5_121 (pf_9_7 _ _) rfl (kS0 hSE) (ltS0 hSE) ?_
    refine r_mem (I2 := sr E.2.1 s (un (E.2.1 s) 7 (N 12 + 1))) ((up2_row _ _ _ _).trans ((congrArg (fun fz_ => sr E.2.1 s (un fz_ 7 (N 12 + 1))) (show E.2.1 s = E.2.1 s from rfl)).trans (rfl))) ?_
    refine r_aload_n (pc := 112) (i := 1) dX5_winnowEights_112 rfl rfl ?_
    refine r_iconst (pc := 113) dX5_winnowEights_113 (in32_of rfl) ?_
    refine r_putfi (pc := 114) cks dX5_winnowEights_114 fl_X5_77 (pf_9_0 _ _) rfl (kS0 hSE) (ltS0 hSE) ?_
    refine r_mem (I2 := sr E.2.1 s (un (un (E.2.1 s) 7 (N 12 + 1)) 0 3)) ((up2_row _ _ _ _).trans ((congrArg (fun fz_ => sr (sr E.2.1 s (un (E.2.1 s) 7 (N 12 + 1))) s (un fz_ 0 3)) (show (sr E.2.1 s (un (E.2.1 s) 7 (N 12 + 1))) s = un (E.2.1 s) 7 (N 12 + 1) from sr_row _ _ _)).trans (sr_sr _ _ _ _))) ?_
    refine r_aload_n (pc := 117) (i := 1) dX5_winnowEights_117 rfl rfl ?_
    refine r_getfi (pc := 118) cks dX5_winnowEights_118 fl_X5_37 rfl (kS0 hSE) (ltS0 hSE) ?_
    refine r_top (b := (un (un (E.2.1 s) 7 (N 12 + 1)) 0 3) 8) (sr_at _ _ _ _) ?_
    refine r_top (b := E.2.1 s 8) ((un_ne (by decide)).trans (un_ne (by decide))) ?_
    refine r_top (b := wnS N e 7) (hP.2.1.2.2.2.2.1) ?_
    refine r_iload_n (pc := 121) (i := 2) dX5_winnowEights_121 rfl rfl ?_
    refine r_isubN (pc := 122) (c := (w32 (wnS N e 7 - N 7))) dX5_winnowEights_122 rfl ?_
    have hen : e = n / 8 := by omega
    subst hen
    have hE := wn_end hS hm0.1 hdm hst hP0 hN2 hN0 hN6 hLs hn12 hwn hP.2
    exact r_iret (pc := 123) dX5_winnowEights_123 trivial (by rw [wn_ret (by omega)]; exact hq _ _ _ _ _ _ hE)
  · refine r_aload_n (pc := 21) (i := 0) dX5_winnowEights_21 rfl rfl ?_
    refine r_aload_n (pc := 22) (i := 1) dX5_winnowEights_22 rfl rfl ?_
    refine r_iload_n (pc := 23) (i := 3) dX5_winnowEights_23 rfl rfl ?_
    refine r_iconst (pc := 24) dX5_winnowEights_24 (in32_of rfl) ?_
    refine r_callV1 (pc := 25) (d - 1) [aR s, aI ((8 * e : Nat) : Int), aI 0] dX5_winnowEights_25 (CV.mk2 mk_X5_askEight lk_X5_117) (RC.of (ltD0 hDE) (kD0 hDE) (by decide) rfl) rfl rfl (by omega) (Nat.le_of_ble_eq_true rfl) (Nat.le_of_ble_eq_true rfl) (k_askEight (m := m) (e := e) (j := 0) (q := q) (n := n) (M := wnS N e) hSE (by omega) hDE hdm hP.2.1 hP.2.2.1.1 hP.2.2.1.2 (by omega) (by decide) (by omega) (fun U K p2 o2 t2 c2 hA => ?_))
    refine ⟨_, rfl, fun _ => ?_⟩
    have hW1 := WnI_tell hS hm0.1 hdm hP.2 hA
    have hSE := hW1.1.1
    have hDE := ShD_ext hD hW1.2.2.1.1 hdm
    refine r_if_eq (pc := 28) (tgt := 96) dX5_winnowEights_28 rfl (fun c28 => ?_) (fun c28 => ?_)
    · refine r_iincN (pc := 96) (i := 3) (c := ((8 * e + 8 : Nat) : Int)) (lv' := [_, _, _, _, _, _]) dX5_winnowEights_96 rfl (by decide) (by unfold w32; omega) rfl ?_
      refine r_goto (pc := 99) (tgt := 7) dX5_winnowEights_99 rfl ?_
      exact ih (e + 1) (U, K, p2, o2, t2, c2) ⟨by omega, by rw [wnS_succ]; unfold wnT; rw [if_pos (show u8 (wnS N e) e 0 = 0 from c28)]; exact hW1⟩ (by omega)
    · refine r_iconst (pc := 31) dX5_winnowEights_31 (in32_of rfl) ?_
      refine r_istore (pc := 32) (i := 4) (lv' := [_, _, _, _, _, _]) dX5_winnowEights_32 (by decide) rfl ?_
      refine r_iconst (pc := 34) dX5_winnowEights_34 (in32_of rfl) ?_
      refine r_istore (pc := 35) (i := 5) (lv' := [_, _, _, _, _, _]) dX5_winnowEights_35 (by decide) rfl ?_
      refine loop2 (fun (j : Nat) (E3 : WE) => j ≤ 3 ∧ WnI T I s m p o t c E3 (nbM (wnS N e) e j) n q) (fun (j : Nat) (E3 : WE) => 3 - j) (fun (j : Nat) (E3 : WE) => [some (aR m), some (aR s), some (aI (N 7)), some (aI ((8 * e : Nat) : Int)), some (aI (nbV (wnS N e) e j)), some (aI (((bX j) : Nat) : Int))]) (fun (j : Nat) (E3 : WE) => E3.1) (fun (j : Nat) (E3 : WE) => E3.2.1) ?_ 0 (U, K, p2, o2, t2, c2) ⟨Nat.zero_le _, hW1⟩
      intro j E3 hP2 ih2
      have hP2 : j ≤ 3 ∧ WnI T I s m p o t c E3 (nbM (wnS N e) e j) n q := hP2
      have hSE := hP2.2.1.1
      have hDE := ShD_ext hD hP2.2.2.2.1.1 hdm
      have hb3 : bX j < 8 ↔ j < 3 := bX_8 j hP2.1
      have htj := nbM_ok (e := e) hwn.1 j (by omega)
      refine (?_ : Ev G mX5_winnowEights d 37 [some (aR m), some (aR s), some (aI (N 7)), some (aI ((8 * e : Nat) : Int)), some (aI (nbV (wnS N e) e j)), some (aI (((bX j) : Nat) : Int))] [] E3.1 E3.2.1 Q)
      refine r_iload (pc := 37) (i := 5) dX5_winnowEights_37 rfl ?_
      refine r_bipush (pc := 39) dX5_winnowEights_39 rfl (in32_of rfl) ?_
      refine r_icmp_ge (pc := 41) (tgt := 75) dX5_winnowEights_41 rfl (fun c41 => ?_) (fun c41 => ?_)
      · have hj3 : j = 3 := by omega
        subst hj3
        have hv3 := nbV_3 (wnS N e) e
        refine r_aload_n (pc := 75) (i := 1) dX5_winnowEights_75 rfl rfl ?_
        refine r_getfr (pc := 76) (b := s + 3) cks dX5_winnowEights_76 fl_X5_48 rfl (kS0 hSE) (ltS0 hSE) (rS0_11 hSE) ?_
        refine r_iload_n (pc := 79) (i := 3) dX5_winnowEights_79 rfl rfl ?_
        refine r_iload (pc := 80) (i := 4) dX5_winnowEights_80 rfl ?_
        refine r_iaddN (pc := 82) (c := (((8 * e + (nbV (wnS N e) e 3).toNat) : Nat) : Int)) dX5_winnowEights_82 (by unfold w32; omega) ?_
        refine r_callV0 (pc := 83) (d - 1) [aI (((8 * e + (nbV (wnS N e) e 3).toNat) : Nat) : Int)] dX5_winnowEights_83 (CV.mk2 mk_X3_turn lk_X5_114) (RC.of (ltS (k := 3) hSE (by omega)) (kS3 hSE) (by decide) rfl) rfl rfl (by omega) (Nat.le_of_ble_eq_true rfl) (Nat.le_of_ble_eq_true rfl) (k_turnN (n := n) (k := 8 * e + (nbV (wnS N e) e 3).toNat) hSE (by omega) hP2.2.1.2.1.1 hn2 (by omega) ?_)
        refine ⟨rfl, fun _ => ?_⟩
        refine r_mem (I2 := sr E3.2.1 (s + 5) (un (E3.2.1 (s + 5)) (8 * e + (nbV (wnS N e) e 3).toNat) (ixo ((E3.2.1 (s + 5)) (8 * e + (nbV (wnS N e) e 3).toNat)) 1))) ((congrArg (fun v0_ => (sr E3.2.1 (s + 5) (un v0_ (8 * e + (nbV (wnS N e) e 3).toNat) (ixo (v0_ (8 * e + (nbV (wnS N e) e 3).toNat)) 1)))) (show E3.2.1 (s + 5) = E3.2.1 (s + 5) from rfl)).trans (rfl)) ?_
        refine r_aload_n (pc := 86) (i := 1) dX5_winnowEights_86 rfl rfl ?_
        refine r_dup (pc := 87) dX5_winnowEights_87 rfl ?_
        refine r_getfi (pc := 88) cks dX5_winnowEights_88 fl_X5_37 rfl (kS0 hSE) (ltS0 hSE) ?_
        refine r_top (b := E3.2.1 s 8) ((congrFun (sr_ne (by omega)) _).trans (rfl)) ?_
        refine r_top (b := nbM (wnS N e) e 3 7) (hP2.2.1.2.2.2.2.1) ?_
        refine r_iconst (pc := 91) dX5_winnowEights_91 (in32_of rfl) ?_
        refine r_iaddN (pc := 92) (c := (w32 (nbM (wnS N e) e 3 7 + 1))) dX5_winnowEights_92 rfl ?_
        refine r_putfi (pc := 93) cks dX5_winnowEights_93 fl_X5_37 (pf_9_8 _ _) rfl (kS0 hSE) (ltS0 hSE) ?_
        refine r_mem (I2 := sr (sr E3.2.1 (s + 5) (un (E3.2.1 (s + 5)) (8 * e + (nbV (wnS N e) e 3).toNat) (ixo ((E3.2.1 (s + 5)) (8 * e + (nbV (wnS N e) e 3).toNat)) 1))) s (un (E3.2.1 s) 8 (w32 (nbM (wnS N e) e 3 7 + 1)))) ((up2_row _ _ _ _).trans ((congrArg (fun fz_ => sr (sr E3.2.1 (s + 5) (un (E3.2.1 (s + 5)) (8 * e + (nbV (wnS N e) e 3).toNat) (ixo ((E3.2.1 (s + 5)) (8 * e + (nbV (wnS N e) e 3).toNat)) 1))) s (un fz_ 8 (w32 (nbM (wnS N e) e 3 7 + 1)))) (show (sr E3.2.1 (s + 5) (un (E3.2.1 (s + 5)) (8 * e + (nbV (wnS N e) e 3).toNat) (ixo ((E3.2.1 (s + 5)) (8 * e + (nbV (wnS N e) e 3).toNat)) 1))) s = E3.2.1 s from (sr_ne (by omega)).trans (rfl))).trans (rfl))) ?_
        refine r_iincN (pc := 96) (i := 3) (c := ((8 * e + 8 : Nat) : Int)) (lv' := [_, _, _, _, _, _]) dX5_winnowEights_96 rfl (by decide) (by unfold w32; omega) rfl ?_
        refine r_goto (pc := 99) (tgt := 7) dX5_winnowEights_99 rfl ?_
        refine Ev.weak (lv2 := [some (aR m), some (aR s), some (aI (N 7)), some (aI ((8 * e + 8 : Nat) : Int)), none, none]) ⟨Or.inr rfl, Or.inr rfl, Or.inr rfl, Or.inr rfl, Or.inl rfl, Or.inl rfl, trivial⟩ ?_
        exact ih (e + 1) (E3.1, sr (sr E3.2.1 (s + 5) (un (E3.2.1 (s + 5)) (8 * e + (nbV (wnS N e) e 3).toNat) (ixo ((E3.2.1 (s + 5)) (8 * e + (nbV (wnS N e) e 3).toNat)) 1))) s (un (E3.2.1 s) 8 (w32 (nbM (wnS N e) e 3 7 + 1))), E3.2.2) ⟨by omega, by rw [wnS_succ]; unfold wnT; rw [if_neg (show ¬ u8 (wnS N e) e 0 = 0 from c28)]; exact WnI_md hS hP2.2 (by omega)⟩ (by omega)
      · have hj3 : j < 3 := by omega
        have hbx := bX_E j hj3
        have hnv := nbV_add (wnS N e) e j hj3
        refine r_iload (pc := 44) (i := 4) dX5_winnowEights_44 rfl ?_
        refine r_aload_n (pc := 46) (i := 0) dX5_winnowEights_46 rfl rfl ?_
        refine r_aload_n (pc := 47) (i := 1) dX5_winnowEights_47 rfl rfl ?_
        refine r_iload_n (pc := 48) (i := 3) dX5_winnowEights_48 rfl rfl ?_
        refine r_iload (pc := 49) (i := 5) dX5_winnowEights_49 rfl ?_
        refine r_top (b := bE (j + 1)) (hbx.1.symm) ?_
        refine r_callV1 (pc := 51) (d - 1) [aR s, aI ((8 * e : Nat) : Int), aI (bE (j + 1))] dX5_winnowEights_51 (CV.mk2 mk_X5_askEight lk_X5_117) (RC.of (ltD0 hDE) (kD0 hDE) (by decide) rfl) rfl rfl (by omega) (Nat.le_of_ble_eq_true rfl) (Nat.le_of_ble_eq_true rfl) (k_askEight (m := m) (e := e) (j := j + 1) (q := q) (n := n) (M := nbM (wnS N e) e j) hSE (by omega) hDE hdm hP2.2.1 hP2.2.2.1.1 hP2.2.2.1.2 (by omega) (by omega) (by omega) (fun U2 K2 p3 o3 t3 c3 hA2 => ?_))
        refine ⟨_, rfl, fun _ => ?_⟩
        have hW2 := WnI_tell hS hm0.1 hdm hP2.2 hA2
        refine r_if_eq (pc := 54) (tgt := 62) dX5_winnowEights_54 rfl (fun c54 => ?_) (fun c54 => ?_)
        · refine r_iconst (pc := 62) dX5_winnowEights_62 (in32_of rfl) ?_
          refine r_iaddN (pc := 63) (c := (nbV (wnS N e) e (j + 1))) dX5_winnowEights_63 (by have hv := hnv.1; rw [if_pos c54] at hv; have := hnv.2; have := hbx.2.2; rw [hv]; unfold w32; omega) ?_
          refine r_istore (pc := 64) (i := 4) (lv' := [_, _, _, _, _, _]) dX5_winnowEights_64 (by decide) rfl ?_
          refine r_iload (pc := 66) (i := 5) dX5_winnowEights_66 rfl ?_
          refine r_iconst (pc := 68) dX5_winnowEights_68 (in32_of rfl) ?_
          refine r_imulN (pc := 69) (c := (((bX (j + 1)) : Nat) : Int)) dX5_winnowEights_69 (by have := hbx.2.1; unfold w32; omega) ?_
          refine r_istore (pc := 70) (i := 5) (lv' := [_, _, _, _, _, _]) dX5_winnowEights_70 (by decide) rfl ?_
          refine r_goto (pc := 72) (tgt := 37) dX5_winnowEights_72 rfl ?_
          exact ih2 (j + 1) (U2, K2, p3, o3, t3, c3) ⟨by omega, hW2⟩ (by omega)
        · refine r_iload (pc := 57) (i := 5) dX5_winnowEights_57 rfl ?_
          refine r_goto (pc := 59) (tgt := 63) dX5_winnowEights_59 rfl ?_
          refine r_iaddN (pc := 63) (c := (nbV (wnS N e) e (j + 1))) dX5_winnowEights_63 (by have hv := hnv.1; rw [if_neg c54] at hv; have := hnv.2; have := hbx.2.2; rw [hv]; unfold w32; omega) ?_
          refine r_istore (pc := 64) (i := 4) (lv' := [_, _, _, _, _, _]) dX5_winnowEights_64 (by decide) rfl ?_
          refine r_iload (pc := 66) (i := 5) dX5_winnowEights_66 rfl ?_
          refine r_iconst (pc := 68) dX5_winnowEights_68 (in32_of rfl) ?_
          refine r_imulN (pc := 69) (c := (((bX (j + 1)) : Nat) : Int)) dX5_winnowEights_69 (by have := hbx.2.1; unfold w32; omega) ?_
          refine r_istore (pc := 70) (i := 5) (lv' := [_, _, _, _, _, _]) dX5_winnowEights_70 (by decide) rfl ?_
          refine r_goto (pc := 72) (tgt := 37) dX5_winnowEights_72 rfl ?_
          exact ih2 (j + 1) (U2, K2, p3, o3, t3, c3) ⟨by omega, hW2⟩ (by omega)
end C34
