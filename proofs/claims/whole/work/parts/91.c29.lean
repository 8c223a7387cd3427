section C29
variable {G : Gl} {d : Nat} {T : Sh} {I : Mi} {N : Nat → Int} {Q : Option AV → Sh → Mi → Prop}
theorem ck_W {J : Mi} {x i n z : Nat} {M : Nat → Int} {F : Nat → Int} (hn : n ≤ 256) (hz : z < 256) (hR : Rng M) (h : ∀ k, k < n → J x (i + k) = M (2580 + i + k)) (hi : 2580 + i + n ≤ 3902) : b64 (rsW (fun j => J x (i + j)) (fiR F 0 4) n (z / 64)) (z % 64) = (decide (z < n) && decide (M (2580 + i + z) = 1)) := by
  rw [b64_rsW n (fun k hk => by show J x (i + k) = 0 ∨ J x (i + k) = 1; rw [h k hk]; exact Rng_row hR (by omega) (by omega)), fiR_in (by omega), b64_0, Bool.false_or]
  by_cases g : z < n
  · rw [h z g]
  · rw [decide_eq_false g]; rfl
theorem k_compare {a u n q h : Nat} {L : Nat → Int} {s p o t c : Nat} (hS : ShS T s p o t c) (hd : 3 ≤ d) (hA : ShA T a) (hda : a + 3 ≤ s ∨ s + 15 ≤ a) (hu : ShP T u) (hL : ∀ k, k < 9 → I (u + 1) k = L k) (hh : L 7 = (h : Int)) (hh1 : 1 ≤ h) (hh2 : h ≤ 30) (hst : StR L I s p o t N) (htc : tN N ≤ c) (hP0 : PmO N q n) (hLd : LdOk N q n) (hno : No2 N) (hN2 : N 2 = (q : Int)) (hN0 : ¬ N 0 = 0) (hN6 : N 6 = 0) (hLs : (sgV L N).toNat ≤ 256) (ht : tN N + h ≤ 13608) (hq : ∀ (U : Sh) (K : Mi) (p2 o2 t2 c2 : Nat), AcP T U I K s p o t c p2 o2 t2 c2 L (ckF N n h) q n a 3 → Q none U K) : EvE G mX0_compare d [aR a, aR s, aR u] T I Q := by
  have hne := neS hS
  have hA0 := hA.1
  have hn2 := hP0.2.2.1
  have hnx := hS.1.2.1
  obtain ⟨b, hb⟩ : ∃ b, n + h - 1 = b := ⟨_, rfl⟩
  have hrk := rwS_ok (r := 2580) hP0.1 (by decide) b (by omega)
  have htr : tN (rwS N 2580 b) = tN N := by unfold tN; rw [hrk.2 3 (by decide) (Or.inl (by decide))]
  have hI0 := cki_0 hS hA0.1 hda hst htc hP0 hLd hno hN2 (show 2580 + b ≤ 3902 by omega)
  clear hne
  refine EvE.mk (lv0 := [some (aR a), some (aR s), some (aR u), none, none, none, none]) (Nat.le_of_ble_eq_true rfl) (by decide +kernel) rfl ?_
  refine r_aload_n (pc := 0) (i := 2) dX0_compare_0 rfl rfl ?_
  refine r_bipush (pc := 1) dX0_compare_1 rfl (in32_of rfl) ?_
  refine r_callV1 (pc := 3) (d - 1) [aI 7] dX0_compare_3 (CV.mk2 mk_X6_number lk_X0_24) (RC.of (ltP0 hu) (kP0 hu) (by decide) rfl) rfl rfl (by omega) (Nat.le_of_ble_eq_true rfl) (Nat.le_of_ble_eq_true rfl) (k_num (L := L) hu 7 (by decide) (fun k_ hk_ => (congrFun (show I (u + 1) = I (u + 1) from rfl) k_).trans (hL k_ hk_)) ?_)
  refine ⟨_, rfl, fun _ => ?_⟩
  refine r_top (b := (h : Int)) hh ?_
  refine r_istore_n (pc := 6) (i := 3) (lv' := [_, _, _, _, _, _, _]) dX0_compare_6 rfl (by decide) rfl ?_
  refine r_aload_n (pc := 7) (i := 1) dX0_compare_7 rfl rfl ?_
  refine r_aload_n (pc := 8) (i := 0) dX0_compare_8 rfl rfl ?_
  refine r_getfr (pc := 9) (b := a + 1) cks dX0_compare_9 fl_X0_9 rfl (kA0 hA) (ltA0 hA) (rA0_0 hA) ?_
  refine r_aload_n (pc := 12) (i := 1) dX0_compare_12 rfl rfl ?_
  refine r_getfr (pc := 13) (b := s + 3) cks dX0_compare_13 fl_X0_45 rfl (kS0 hS) (ltS0 hS) (rS0_11 hS) ?_
  refine r_getfi (pc := 16) cks dX0_compare_16 fl_X0_61 rfl (kS3 hS) (ltS (k := 3) hS (by omega)) ?_
  refine r_top (b := (n : Int)) (hst.2.2.2.1.1.trans hP0.2.1) ?_
  refine r_iload_n (pc := 19) (i := 3) dX0_compare_19 rfl rfl ?_
  refine r_iaddN (pc := 20) (c := ((n + h : Nat) : Int)) dX0_compare_20 (by unfold w32; omega) ?_
  refine r_iconst (pc := 21) dX0_compare_21 (in32_of rfl) ?_
  refine r_isubN (pc := 22) (c := ((b : Nat) : Int)) dX0_compare_22 (by unfold w32; omega) ?_
  refine r_callS0 (pc := 23) (d - 1) [aR s, aR (a + 1), aI ((b : Nat) : Int)] dX0_compare_23 (CS.mk2 mk_X0_drawRow lk_X0_89) rfl rfl (by omega) (Nat.le_of_ble_eq_true rfl) (Nat.le_of_ble_eq_true rfl) (k_drawRow (x := a + 1) (lx := 512) (b := b) (r := 2580) (N := N) hS (by omega) (kA1 hA) (ltA hA (by omega)) (lA1 hA) (by omega) hst.1.2.1 hP0.1 (by decide) (by omega) (by omega) (by omega) ?_)
  refine ⟨rfl, fun _ => ?_⟩
  refine r_mem (I2 := sr (sr I s (un (I s) 1 ((rwS N 2580 b) 8))) (a + 1) (rowR (I (a + 1)) (rwS N 2580 b) 2580 b)) ((congr (congrArg (fun v0_ v1_ => (sr (sr I s (un v0_ 1 ((rwS N 2580 b) 8))) (a + 1) (rowR v1_ (rwS N 2580 b) 2580 b))) (show I s = I s from rfl)) (show I (a + 1) = I (a + 1) from rfl)).trans ((congrArg (fun X => sr X (a + 1) (rowR (I (a + 1)) (rwS N 2580 b) 2580 b)) (rfl)).trans (rfl))) ?_
  refine r_iconst (pc := 26) dX0_compare_26 (in32_of rfl) ?_
  refine r_istore (pc := 27) (i := 4) (lv' := [_, _, _, _, _, _, _]) dX0_compare_27 (by decide) rfl ?_
  refine r_iconst (pc := 29) dX0_compare_29 (in32_of rfl) ?_
  refine r_istore (pc := 30) (i := 5) (lv' := [_, _, _, _, _, _, _]) dX0_compare_30 (by decide) rfl ?_
  refine loop2 (fun (i : Nat) (E : WE) => i ≤ h ∧ CkI T I s a p o t c E (ckS (rwS N 2580 b) n i) (rwS N 2580 b) n q b) (fun (i : Nat) (E : WE) => h - i) (fun (i : Nat) (E : WE) => [some (aR a), some (aR s), some (aR u), some (aI ((h : Nat) : Int)), some (aI (isC (rwS N 2580 b) n i)), some (aI ((i : Nat) : Int)), none]) (fun (i : Nat) (E : WE) => E.1) (fun (i : Nat) (E : WE) => E.2.1) ?_ 0 (T, sr (sr I s (un (I s) 1 (rwS N 2580 b 8))) (a + 1) (rowR (I (a + 1)) (rwS N 2580 b) 2580 b), p, o, t, c) ⟨Nat.zero_le _, hI0⟩
  intro i E hP ih
  have hP : i ≤ h ∧ CkI T I s a p o t c E (ckS (rwS N 2580 b) n i) (rwS N 2580 b) n q b := hP
  have hAE := ShA_ext hA hP.2.2.2.1.1 hda
  have hSE := hP.2.1.1
  have hck := ckS_ok (n := n) hrk.1 i (by omega)
  refine (?_ : Ev G mX0_compare d 32 [some (aR a), some (aR s), some (aR u), some (aI ((h : Nat) : Int)), some (aI (isC (rwS N 2580 b) n i)), some (aI ((i : Nat) : Int)), none] [] E.1 E.2.1 Q)
  refine r_iload (pc := 32) (i := 5) dX0_compare_32 rfl ?_
  refine r_iload_n (pc := 34) (i := 3) dX0_compare_34 rfl rfl ?_
  refine r_icmp_ge (pc := 35) (tgt := 137) dX0_compare_35 rfl (fun c35 => ?_) (fun c35 => ?_)
  · refine r_aload_n (pc := 137) (i := 1) dX0_compare_137 rfl rfl ?_
    refine r_iload (pc := 138) (i := 4) dX0_compare_138 rfl ?_
    refine r_if_eq (pc := 140) (tgt := 147) dX0_compare_140 rfl (fun c140 => ?_) (fun c140 => ?_)
    · refine r_bipush (pc := 147) dX0_compare_147 rfl (in32_of rfl) ?_
      refine r_putfi (pc := 149) cks dX0_compare_149 fl_X0_55 (pf_9_0 _ _) rfl (kS0 hSE) (ltS0 hSE) ?_
      refine r_mem (I2 := sr E.2.1 s (un (E.2.1 s) 0 6)) ((up2_row _ _ _ _).trans ((congrArg (fun fz_ => sr E.2.1 s (un fz_ 0 6)) (show E.2.1 s = E.2.1 s from rfl)).trans (rfl))) ?_
      have hih : i = h := by omega
      subst hih
      have hE := ck_end (v := 6) hS hA0.1 hda hst hP0 hN2 hN0 hN6 hLs (by omega) (by omega) hP.2 hck.2.2
      exact r_vret (pc := 152) dX0_compare_152 trivial (hq _ _ _ _ _ _ (by unfold ckF; rw [hb, if_pos c140]; exact hE))
    · refine r_iconst (pc := 143) dX0_compare_143 (in32_of rfl) ?_
      refine r_goto (pc := 144) (tgt := 149) dX0_compare_144 rfl ?_
      refine r_putfi (pc := 149) cks dX0_compare_149 fl_X0_55 (pf_9_0 _ _) rfl (kS0 hSE) (ltS0 hSE) ?_
      refine r_mem (I2 := sr E.2.1 s (un (E.2.1 s) 0 4)) ((up2_row _ _ _ _).trans ((congrArg (fun fz_ => sr E.2.1 s (un fz_ 0 4)) (show E.2.1 s = E.2.1 s from rfl)).trans (rfl))) ?_
      have hih : i = h := by omega
      subst hih
      have hE := ck_end (v := 4) hS hA0.1 hda hst hP0 hN2 hN0 hN6 hLs (by omega) (by omega) hP.2 hck.2.2
      exact r_vret (pc := 152) dX0_compare_152 trivial (hq _ _ _ _ _ _ (by unfold ckF; rw [hb, if_neg c140]; exact hE))
  · refine r_aload_n (pc := 38) (i := 1) dX0_compare_38 rfl rfl ?_
    refine r_getfr (pc := 39) (b := s + 3) cks dX0_compare_39 fl_X0_45 rfl (kS0 hSE) (ltS0 hSE) (rS0_11 hSE) ?_
    refine r_aload_n (pc := 42) (i := 1) dX0_compare_42 rfl rfl ?_
    refine r_getfr (pc := 43) (b := s + 3) cks dX0_compare_43 fl_X0_45 rfl (kS0 hSE) (ltS0 hSE) (rS0_11 hSE) ?_
    refine r_getfr (pc := 46) (b := s + 4) cks dX0_compare_46 fl_X0_93 rfl (kS3 hSE) (ltS (k := 3) hSE (by omega)) (rS3_1 hSE) ?_
    refine r_aload_n (pc := 49) (i := 0) dX0_compare_49 rfl rfl ?_
    refine r_getfr (pc := 50) (b := a + 1) cks dX0_compare_50 fl_X0_9 rfl (kA0 hAE) (ltA0 hAE) (rA0_0 hAE) ?_
    refine r_iload (pc := 53) (i := 5) dX0_compare_53 rfl ?_
    refine r_callV1 (pc := 55) (d - 1) [aR (s + 4), aR (a + 1), aI ((i : Nat) : Int)] dX0_compare_55 (CV.mk2 mk_X3_parity lk_X0_96) (RC.of (ltS (k := 3) hSE (by omega)) (kS3 hSE) (by decide) rfl) rfl rfl (by omega) (Nat.le_of_ble_eq_true rfl) (Nat.le_of_ble_eq_true rfl) (k_parity (n := n) (x := s + 4) (y := a + 1) (i := i) (lx := 256) (ly := 512) hSE hP.2.1.2.1.1 hn2 (kS4 hSE) (ltS hSE (by omega)) (lS4 hSE) (kA1 hAE) (ltA hAE (by omega)) (lA1 hAE) (by omega) (by omega) (by omega) ?_)
    refine ⟨_, rfl, fun _ => ?_⟩
    refine r_top (b := parR (ckS (rwS N 2580 b) n i) 276 2580 i n) (kp_par n (fun k hk => ⟨(hP.2.1.2.1.2 k hk).1, (hP.2.2.2.2.2.2.2 (i + k) (by omega)).trans ((congrArg (rwS N 2580 b) (Nat.add_assoc _ _ _)).symm.trans (hck.2.2 _ (by omega) (by omega)).symm)⟩)) ?_
    refine r_istore (pc := 58) (i := 6) (lv' := [_, _, _, _, _, _, _]) dX0_compare_58 (by decide) rfl ?_
    refine r_iload (pc := 60) (i := 4) dX0_compare_60 rfl ?_
    refine r_if_eq (pc := 62) (tgt := 94) dX0_compare_62 rfl (fun c62 => ?_) (fun c62 => ?_)
    · refine r_iconst (pc := 94) dX0_compare_94 (in32_of rfl) ?_
      refine r_istore (pc := 95) (i := 4) (lv' := [_, _, _, _, _, _, _]) dX0_compare_95 (by decide) rfl ?_
      refine r_aload_n (pc := 97) (i := 0) dX0_compare_97 rfl rfl ?_
      refine r_getfr (pc := 98) (b := a + 1) cks dX0_compare_98 fl_X0_9 rfl (kA0 hAE) (ltA0 hAE) (rA0_0 hAE) ?_
      refine r_iload (pc := 101) (i := 5) dX0_compare_101 rfl ?_
      refine r_aload_n (pc := 103) (i := 1) dX0_compare_103 rfl rfl ?_
      refine r_getfr (pc := 104) (b := s + 3) cks dX0_compare_104 fl_X0_45 rfl (kS0 hSE) (ltS0 hSE) (rS0_11 hSE) ?_
      refine r_getfi (pc := 107) cks dX0_compare_107 fl_X0_61 rfl (kS3 hSE) (ltS (k := 3) hSE (by omega)) ?_
      refine r_top (b := (n : Int)) (hP.2.1.2.1.1) ?_
      refine r_aload_n (pc := 110) (i := 0) dX0_compare_110 rfl rfl ?_
      refine r_getfr (pc := 111) (b := a + 2) cks dX0_compare_111 fl_X0_15 rfl (kA0 hAE) (ltA0 hAE) (rA0_1 hAE) ?_
      refine r_callS0 (pc := 114) (d - 1) [aR (a + 1), aI ((i : Nat) : Int), aI ((n : Nat) : Int), aR (a + 2)] dX0_compare_114 (CS.mk2 mk_X0_setOfRow lk_X0_103) rfl rfl (by omega) (Nat.le_of_ble_eq_true rfl) (Nat.le_of_ble_eq_true rfl) (k_setOfRow (x := a + 1) (lx := 512) (w := a + 2) (i := i) (n := n) (by omega) (kA1 hAE) (ltA hAE (by omega)) (lA1 hAE) (kA2 hAE) (ltA hAE (by omega)) (lA2 hAE) (by omega) hn2 (by omega) (by omega) ?_)
      refine ⟨rfl, fun _ => ?_⟩
      refine r_mem (I2 := sr E.2.1 (a + 2) (rsW (fun j => (E.2.1 (a + 1)) (i + j)) (fiR (E.2.1 (a + 2)) 0 4) n)) ((congr (congrArg (fun v0_ v1_ => (sr E.2.1 (a + 2) (rsW (fun j => v0_ (i + j)) (fiR v1_ 0 4) n))) (show E.2.1 (a + 1) = E.2.1 (a + 1) from rfl)) (show E.2.1 (a + 2) = E.2.1 (a + 2) from rfl)).trans (rfl)) ?_
      refine r_aload_n (pc := 117) (i := 1) dX0_compare_117 rfl rfl ?_
      refine r_getfr (pc := 118) (b := s + 7) cks dX0_compare_118 fl_X0_107 rfl (kS0 hSE) (ltS0 hSE) (rS0_12 hSE) ?_
      refine r_iload (pc := 121) (i := 6) dX0_compare_121 rfl ?_
      refine r_iconst (pc := 123) dX0_compare_123 (in32_of rfl) ?_
      refine r_aload_n (pc := 124) (i := 0) dX0_compare_124 rfl rfl ?_
      refine r_getfr (pc := 125) (b := a + 2) cks dX0_compare_125 fl_X0_15 rfl (kA0 hAE) (ltA0 hAE) (rA0_1 hAE) ?_
      refine r_callV0 (pc := 128) (d - 1) [aI (parR (ckS (rwS N 2580 b) n i) 276 2580 i n), aI (-1), aR (a + 2)] dX0_compare_128 (CV.mk2 mk_X4_tell lk_X0_111) (RC.of (ltS (k := 7) hSE (by omega)) (kS7 hSE) (by decide) rfl) rfl rfl (by omega) (Nat.le_of_ble_eq_true rfl) (Nat.le_of_ble_eq_true rfl) (k_tell (w := a + 2) (n0 := tN (ckS (rwS N 2580 b) n i)) hSE (by omega) ((congrFun (show (sr E.2.1 (a + 2) (rsW (fun j => (E.2.1 (a + 1)) (i + j)) (fiR (E.2.1 (a + 2)) 0 4) n)) (s + 7) = E.2.1 (s + 7) from (sr_ne (by omega)).trans (rfl)) 0).trans (hP.2.1.2.2.2.1.1.trans (tN_rd hck.1))) hP.2.1.2.2.2.2.2 (by omega) (kA2 hAE) (lA2 hAE) (by omega) (by omega) (fun U K p2 o2 t2 c2 hTl => ?_))
      refine ⟨rfl, fun _ => ?_⟩
      rw [sr_row] at hTl
      have hTw := ck_P (w := a + 2) (W := rsW (fun j => (E.2.1 (a + 1)) (i + j)) (fiR (E.2.1 (a + 2)) 0 4) n) hP.2.1 hP.2.2.1.1 hP.2.2.1.2 (by omega) (by omega) (by omega) (by omega) (fun z hz => ck_W hn2 hz hck.1 (fun k hk => (hP.2.2.2.2.2.2.2 (i + k) (by omega)).trans ((congrArg (rwS N 2580 b) (Nat.add_assoc _ _ _)).symm.trans (hck.2.2 _ (by omega) (by omega)).symm)) (by omega)) hTl
      have hpB : parR (ckS (rwS N 2580 b) n (i + 1)) 532 2580 i n = parR (ckS (rwS N 2580 b) n i) 532 2580 i n := parR_ext n (fun k hk => ⟨by rw [ckS_succ, tl_lo (by omega) (by omega)], by rw [ckS_succ, tl_lo (by omega) (by omega)]⟩)
      refine r_iincN (pc := 131) (i := 5) (c := ((i + 1 : Nat) : Int)) (lv' := [_, _, _, _, _, _, _]) dX0_compare_131 rfl (by decide) (by unfold w32; omega) rfl ?_
      refine r_goto (pc := 134) (tgt := 32) dX0_compare_134 rfl ?_
      refine Ev.weak (lv2 := [some (aR a), some (aR s), some (aR u), some (aI ((h : Nat) : Int)), some (aI 0), some (aI ((i + 1 : Nat) : Int)), none]) ⟨Or.inr rfl, Or.inr rfl, Or.inr rfl, Or.inr rfl, Or.inr rfl, Or.inr rfl, Or.inl rfl, trivial⟩ ?_
      have hcv : isC (rwS N 2580 b) n (i + 1) = 0 := by rw [isC_succ, if_pos c62]
      have hst3 := ck_step hS hA0.1 hda hP.2 hTw.1 hTw.2.1 hTw.2.2
      exact Ev.re (by rw [hcv]) rfl (ih (i + 1) (U, K, p2, o2, t2, c2) ⟨by omega, hst3⟩ (by omega))
    · refine r_iload (pc := 65) (i := 6) dX0_compare_65 rfl ?_
      refine r_aload_n (pc := 67) (i := 1) dX0_compare_67 rfl rfl ?_
      refine r_getfr (pc := 68) (b := s + 3) cks dX0_compare_68 fl_X0_45 rfl (kS0 hSE) (ltS0 hSE) (rS0_11 hSE) ?_
      refine r_aload_n (pc := 71) (i := 1) dX0_compare_71 rfl rfl ?_
      refine r_getfr (pc := 72) (b := s + 3) cks dX0_compare_72 fl_X0_45 rfl (kS0 hSE) (ltS0 hSE) (rS0_11 hSE) ?_
      refine r_getfr (pc := 75) (b := s + 5) cks dX0_compare_75 fl_X0_100 rfl (kS3 hSE) (ltS (k := 3) hSE (by omega)) (rS3_2 hSE) ?_
      refine r_aload_n (pc := 78) (i := 0) dX0_compare_78 rfl rfl ?_
      refine r_getfr (pc := 79) (b := a + 1) cks dX0_compare_79 fl_X0_9 rfl (kA0 hAE) (ltA0 hAE) (rA0_0 hAE) ?_
      refine r_iload (pc := 82) (i := 5) dX0_compare_82 rfl ?_
      refine r_callV1 (pc := 84) (d - 1) [aR (s + 5), aR (a + 1), aI ((i : Nat) : Int)] dX0_compare_84 (CV.mk2 mk_X3_parity lk_X0_96) (RC.of (ltS (k := 3) hSE (by omega)) (kS3 hSE) (by decide) rfl) rfl rfl (by omega) (Nat.le_of_ble_eq_true rfl) (Nat.le_of_ble_eq_true rfl) (k_parity (n := n) (x := s + 5) (y := a + 1) (i := i) (lx := 256) (ly := 512) hSE hP.2.1.2.1.1 hn2 (kS5 hSE) (ltS hSE (by omega)) (lS5 hSE) (kA1 hAE) (ltA hAE (by omega)) (lA1 hAE) (by omega) (by omega) (by omega) ?_)
      refine ⟨_, rfl, fun _ => ?_⟩
      refine r_top (b := parR (ckS (rwS N 2580 b) n i) 532 2580 i n) (kp_par n (fun k hk => ⟨(hP.2.1.2.1.2 k hk).2, (hP.2.2.2.2.2.2.2 (i + k) (by omega)).trans ((congrArg (rwS N 2580 b) (Nat.add_assoc _ _ _)).symm.trans (hck.2.2 _ (by omega) (by omega)).symm)⟩)) ?_
      refine r_icmp_ne (pc := 87) (tgt := 94) dX0_compare_87 rfl (fun c87 => ?_) (fun c87 => ?_)
      · refine r_iconst (pc := 94) dX0_compare_94 (in32_of rfl) ?_
        refine r_istore (pc := 95) (i := 4) (lv' := [_, _, _, _, _, _, _]) dX0_compare_95 (by decide) rfl ?_
        refine r_aload_n (pc := 97) (i := 0) dX0_compare_97 rfl rfl ?_
        refine r_getfr (pc := 98) (b := a + 1) cks dX0_compare_98 fl_X0_9 rfl (kA0 hAE) (ltA0 hAE) (rA0_0 hAE) ?_
        refine r_iload (pc := 101) (i := 5) dX0_compare_101 rfl ?_
        refine r_aload_n (pc := 103) (i := 1) dX0_compare_103 rfl rfl ?_
        refine r_getfr (pc := 104) (b := s + 3) cks dX0_compare_104 fl_X0_45 rfl (kS0 hSE) (ltS0 hSE) (rS0_11 hSE) ?_
        refine r_getfi (pc := 107) cks dX0_compare_107 fl_X0_61 rfl (kS3 hSE) (ltS (k := 3) hSE (by omega)) ?_
        refine r_top (b := (n : Int)) (hP.2.1.2.1.1) ?_
        refine r_aload_n (pc := 110) (i := 0) dX0_compare_110 rfl rfl ?_
        refine r_getfr (pc := 111) (b := a + 2) cks dX0_compare_111 fl_X0_15 rfl (kA0 hAE) (ltA0 hAE) (rA0_1 hAE) ?_
        refine r_callS0 (pc := 114) (d - 1) [aR (a + 1), aI ((i : Nat) : Int), aI ((n : Nat) : Int), aR (a + 2)] dX0_compare_114 (CS.mk2 mk_X0_setOfRow lk_X0_103) rfl rfl (by omega) (Nat.le_of_ble_eq_true rfl) (Nat.le_of_ble_eq_true rfl) (k_setOfRow (x := a + 1) (lx := 512) (w := a + 2) (i := i) (n := n) (by omega) (kA1 hAE) (ltA hAE (by omega)) (lA1 hAE) (kA2 hAE) (ltA hAE (by omega)) (lA2 hAE) (by omega) hn2 (by omega) (by omega) ?_)
        refine ⟨rfl, fun _ => ?_⟩
        refine r_mem (I2 := sr E.2.1 (a + 2) (rsW (fun j => (E.2.1 (a + 1)) (i + j)) (fiR (E.2.1 (a + 2)) 0 4) n)) ((congr (congrArg (fun v0_ v1_ => (sr E.2.1 (a + 2) (rsW (fun j => v0_ (i + j)) (fiR v1_ 0 4) n))) (show E.2.1 (a + 1) = E.2.1 (a + 1) from rfl)) (show E.2.1 (a + 2) = E.2.1 (a + 2) from rfl)).trans (rfl)) ?_
        refine r_aload_n (pc := 117) (i := 1) dX0_compare_117 rfl rfl ?_
        refine r_getfr (pc := 118) (b := s + 7) cks dX0_compare_118 fl_X0_107 rfl (kS0 hSE) (ltS0 hSE) (rS0_12 hSE) ?_
        refine r_iload (pc := 121) (i := 6) dX0_compare_121 rfl ?_
        refine r_iconst (pc := 123) dX0_compare_123 (in32_of rfl) ?_
        refine r_aload_n (pc := 124) (i := 0) dX0_compare_124 rfl rfl ?_
        refine r_getfr (pc := 125) (b := a + 2) cks dX0_compare_125 fl_X0_15 rfl (kA0 hAE) (ltA0 hAE) (rA0_1 hAE) ?_
        refine r_callV0 (pc := 128) (d - 1) [aI (parR (ckS (rwS N 2580 b) n i) 276 2580 i n), aI (-1), aR (a + 2)] dX0_compare_128 (CV.mk2 mk_X4_tell lk_X0_111) (RC.of (ltS (k := 7) hSE (by omega)) (kS7 hSE) (by decide) rfl) rfl rfl (by omega) (Nat.le_of_ble_eq_true rfl) (Nat.le_of_ble_eq_true rfl) (k_tell (w := a + 2) (n0 := tN (ckS (rwS N 2580 b) n i)) hSE (by omega) ((congrFun (show (sr E.2.1 (a + 2) (rsW (fun j => (E.2.1 (a + 1)) (i + j)) (fiR (E.2.1 (a + 2)) 0 4) n)) (s + 7) = E.2.1 (s + 7) from (sr_ne (by omega)).trans (rfl)) 0).trans (hP.2.1.2.2.2.1.1.trans (tN_rd hck.1))) hP.2.1.2.2.2.2.2 (by omega) (kA2 hAE) (lA2 hAE) (by omega) (by omega) (fun U K p2 o2 t2 c2 hTl => ?_))
        refine ⟨rfl, fun _ => ?_⟩
        rw [sr_row] at hTl
        have hTw := ck_P (w := a + 2) (W := rsW (fun j => (E.2.1 (a + 1)) (i + j)) (fiR (E.2.1 (a + 2)) 0 4) n) hP.2.1 hP.2.2.1.1 hP.2.2.1.2 (by omega) (by omega) (by omega) (by omega) (fun z hz => ck_W hn2 hz hck.1 (fun k hk => (hP.2.2.2.2.2.2.2 (i + k) (by omega)).trans ((congrArg (rwS N 2580 b) (Nat.add_assoc _ _ _)).symm.trans (hck.2.2 _ (by omega) (by omega)).symm)) (by omega)) hTl
        have hpB : parR (ckS (rwS N 2580 b) n (i + 1)) 532 2580 i n = parR (ckS (rwS N 2580 b) n i) 532 2580 i n := parR_ext n (fun k hk => ⟨by rw [ckS_succ, tl_lo (by omega) (by omega)], by rw [ckS_succ, tl_lo (by omega) (by omega)]⟩)
        refine r_iincN (pc := 131) (i := 5) (c := ((i + 1 : Nat) : Int)) (lv' := [_, _, _, _, _, _, _]) dX0_compare_131 rfl (by decide) (by unfold w32; omega) rfl ?_
        refine r_goto (pc := 134) (tgt := 32) dX0_compare_134 rfl ?_
        refine Ev.weak (lv2 := [some (aR a), some (aR s), some (aR u), some (aI ((h : Nat) : Int)), some (aI 0), some (aI ((i + 1 : Nat) : Int)), none]) ⟨Or.inr rfl, Or.inr rfl, Or.inr rfl, Or.inr rfl, Or.inr rfl, Or.inr rfl, Or.inl rfl, trivial⟩ ?_
        have hcv : isC (rwS N 2580 b) n (i + 1) = 0 := by rw [isC_succ, if_neg c62, if_neg (by rw [hpB]; exact c87)]
        have hst3 := ck_step hS hA0.1 hda hP.2 hTw.1 hTw.2.1 hTw.2.2
        exact Ev.re (by rw [hcv]) rfl (ih (i + 1) (U, K, p2, o2, t2, c2) ⟨by omega, hst3⟩ (by omega))
      · have c87 := Decidable.of_not_not c87
        refine r_iconst (pc := 90) dX0_compare_90 (in32_of rfl) ?_
        refine r_goto (pc := 91) (tgt := 95) dX0_compare_91 rfl ?_
        refine r_istore (pc := 95) (i := 4) (lv' := [_, _, _, _, _, _, _]) dX0_compare_95 (by decide) rfl ?_
        refine r_aload_n (pc := 97) (i := 0) dX0_compare_97 rfl rfl ?_
        refine r_getfr (pc := 98) (b := a + 1) cks dX0_compare_98 fl_X0_9 rfl (kA0 hAE) (ltA0 hAE) (rA0_0 hAE) ?_
        refine r_iload (pc := 101) (i := 5) dX0_compare_101 rfl ?_
        refine r_aload_n (pc := 103) (i := 1) dX0_compare_103 rfl rfl ?_
        refine r_getfr (pc := 104) (b := s + 3) cks dX0_compare_104 fl_X0_45 rfl (kS0 hSE) (ltS0 hSE) (rS0_11 hSE) ?_
        refine r_getfi (pc := 107) cks dX0_compare_107 fl_X0_61 rfl (kS3 hSE) (ltS (k := 3) hSE (by omega)) ?_
        refine r_top (b := (n : Int)) (hP.2.1.2.1.1) ?_
        refine r_aload_n (pc := 110) (i := 0) dX0_compare_110 rfl rfl ?_
        refine r_getfr (pc := 111) (b := a + 2) cks dX0_compare_111 fl_X0_15 rfl (kA0 hAE) (ltA0 hAE) (rA0_1 hAE) ?_
        refine r_callS0 (pc := 114) (d - 1) [aR (a + 1), aI ((i : Nat) : Int), aI ((n : Nat) : Int), aR (a + 2)] dX0_compare_114 (CS.mk2 mk_X0_setOfRow lk_X0_103) rfl rfl (by omega) (Nat.le_of_ble_eq_true rfl) (Nat.le_of_ble_eq_true rfl) (k_setOfRow (x := a + 1) (lx := 512) (w := a + 2) (i := i) (n := n) (by omega) (kA1 hAE) (ltA hAE (by omega)) (lA1 hAE) (kA2 hAE) (ltA hAE (by omega)) (lA2 hAE) (by omega) hn2 (by omega) (by omega) ?_)
        refine ⟨rfl, fun _ => ?_⟩
        refine r_mem (I2 := sr E.2.1 (a + 2) (rsW (fun j => (E.2.1 (a + 1)) (i + j)) (fiR (E.2.1 (a + 2)) 0 4) n)) ((congr (congrArg (fun v0_ v1_ => (sr E.2.1 (a + 2) (rsW (fun j => v0_ (i + j)) (fiR v1_ 0 4) n))) (show E.2.1 (a + 1) = E.2.1 (a + 1) from rfl)) (show E.2.1 (a + 2) = E.2.1 (a + 2) from rfl)).trans (rfl)) ?_
        refine r_aload_n (pc := 117) (i := 1) dX0_compare_117 rfl rfl ?_
        refine r_getfr (pc := 118) (b := s + 7) cks dX0_compare_118 fl_X0_107 rfl (kS0 hSE) (ltS0 hSE) (rS0_12 hSE) ?_
        refine r_iload (pc := 121) (i := 6) dX0_compare_121 rfl ?_
        refine r_iconst (pc := 123) dX0_compare_123 (in32_of rfl) ?_
        refine r_aload_n (pc := 124) (i := 0) dX0_compare_124 rfl rfl ?_
        refine r_getfr (pc := 125) (b := a + 2) cks dX0_compare_125 fl_X0_15 rfl (kA0 hAE) (ltA0 hAE) (rA0_1 hAE) ?_
        refine r_callV0 (pc := 128) (d - 1) [aI (parR (ckS (rwS N 2580 b) n i) 276 2580 i n), aI (-1), aR (a + 2)] dX0_compare_128 (CV.mk2 mk_X4_tell lk_X0_111) (RC.of (ltS (k := 7) hSE (by omega)) (kS7 hSE) (by decide) rfl) rfl rfl (by omega) (Nat.le_of_ble_eq_true rfl) (Nat.le_of_ble_eq_true rfl) (k_tell (w := a + 2) (n0 := tN (ckS (rwS N 2580 b) n i)) hSE (by omega) ((congrFun (show (sr E.2.1 (a + 2) (rsW (fun j => (E.2.1 (a + 1)) (i + j)) (fiR (E.2.1 (a + 2)) 0 4) n)) (s + 7) = E.2.1 (s + 7) from (sr_ne (by omega)).trans (rfl)) 0).trans (hP.2.1.2.2.2.1.1.trans (tN_rd hck.1))) hP.2.1.2.2.2.2.2 (by omega) (kA2 hAE) (lA2 hAE) (by omega) (by omega) (fun U K p2 o2 t2 c2 hTl => ?_))
        refine ⟨rfl, fun _ => ?_⟩
        rw [sr_row] at hTl
        have hTw := ck_P (w := a + 2) (W := rsW (fun j => (E.2.1 (a + 1)) (i + j)) (fiR (E.2.1 (a + 2)) 0 4) n) hP.2.1 hP.2.2.1.1 hP.2.2.1.2 (by omega) (by omega) (by omega) (by omega) (fun z hz => ck_W hn2 hz hck.1 (fun k hk => (hP.2.2.2.2.2.2.2 (i + k) (by omega)).trans ((congrArg (rwS N 2580 b) (Nat.add_assoc _ _ _)).symm.trans (hck.2.2 _ (by omega) (by omega)).symm)) (by omega)) hTl
        have hpB : parR (ckS (rwS N 2580 b) n (i + 1)) 532 2580 i n = parR (ckS (rwS N 2580 b) n i) 532 2580 i n := parR_ext n (fun k hk => ⟨by rw [ckS_succ, tl_lo (by omega) (by omega)], by rw [ckS_succ, tl_lo (by omega) (by omega)]⟩)
        refine r_iincN (pc := 131) (i := 5) (c := ((i + 1 : Nat) : Int)) (lv' := [_, _, _, _, _, _, _]) dX0_compare_131 rfl (by decide) (by unfold w32; omega) rfl ?_
        refine r_goto (pc := 134) (tgt := 32) dX0_compare_134 rfl ?_
        refine Ev.weak (lv2 := [some (aR a), some (aR s), some (aR u), some (aI ((h : Nat) : Int)), some (aI 1), some (aI ((i + 1 : Nat) : Int)), none]) ⟨Or.inr rfl, Or.inr rfl, Or.inr rfl, Or.inr rfl, Or.inr rfl, Or.inr rfl, Or.inl rfl, trivial⟩ ?_
        have hcv : isC (rwS N 2580 b) n (i + 1) = 1 := by rw [isC_succ, if_neg c62, if_pos (by rw [hpB]; exact c87)]
        have hst3 := ck_step hS hA0.1 hda hP.2 hTw.1 hTw.2.1 hTw.2.2
        exact Ev.re (by rw [hcv]) rfl (ih (i + 1) (U, K, p2, o2, t2, c2) ⟨by omega, hst3⟩ (by omega))
end C29
