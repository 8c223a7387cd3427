section C31
variable {G : Gl} {d : Nat} {T : Sh} {I : Mi} {N : Nat → Int} {Q : Option AV → Sh → Mi → Prop}
theorem laS_lo {M : Nat → Int} {n : Nat} : ∀ i q, ¬ (3390 ≤ q ∧ q < 3390 + i) → ¬ (3646 ≤ q ∧ q < 3646 + i) → laS M n i q = M q := by
  intro i
  induction i with
  | zero => intro q _ _; rfl
  | succ i ih =>
    intro q h1 h2
    rw [laS_succ]
    unfold laT
    rw [un_ne (by omega), un_ne (by omega)]
    exact ih q (by omega) (by omega)
theorem laS_at {M : Nat → Int} {n : Nat} (hn : n ≤ 256) : ∀ i, i ≤ 256 → ∀ k, k < i → laS M n i (k + 3390) = parR M 276 2870 k n ∧ laS M n i (k + 3646) = parR M 532 2870 k n := by
  intro i
  induction i with
  | zero => intro _ k hk; exact absurd hk (Nat.not_lt_zero k)
  | succ i ih =>
    intro hi k hk
    rw [laS_succ]
    by_cases g : k = i
    · subst g
      have e1 : parR (laS M n k) 276 2870 k n = parR M 276 2870 k n := parR_ext n (fun j hj => ⟨laS_lo k _ (by omega) (by omega), laS_lo k _ (by omega) (by omega)⟩)
      have e2 : parR (un (laS M n k) (k + 3390) (parR (laS M n k) 276 2870 k n)) 532 2870 k n = parR M 532 2870 k n := parR_ext n (fun j hj => ⟨by rw [un_ne (by omega)]; exact laS_lo k _ (by omega) (by omega), by rw [un_ne (by omega)]; exact laS_lo k _ (by omega) (by omega)⟩)
      unfold laT
      rw [un_ne (by omega), un_at, e1, un_at, ← e1, e2]
      exact ⟨rfl, rfl⟩
    · unfold laT
      rw [un_ne (by omega), un_ne (by omega), un_ne (by omega), un_ne (by omega)]
      exact ih (by omega) k (by omega)
theorem df_un {A B R : Nat → Int} {n i k : Nat} (hk : k < i + 1) (h : ∀ k, k < i → A k = parR R 276 2870 k n ∧ B k = parR R 532 2870 k n) : (un A i (parR R 276 2870 i n)) k = parR R 276 2870 k n ∧ (un B i (parR R 532 2870 i n)) k = parR R 532 2870 k n := by
  by_cases g : k = i
  · subst g; rw [un_at, un_at]; exact ⟨rfl, rfl⟩
  · rw [un_ne g, un_ne g]; exact h k (by omega)
theorem fn_0 {I K : Mi} {s : Nat} {N M : Nat → Int} (h : FnR I s N) (hK : K (s + 11) = I (s + 11)) (hM : ∀ j, j = 6 ∨ j = 9 ∨ j = 10 ∨ j = 11 → M j = N j) (h6 : N 6 = 0) : FnR K s M := by
  obtain ⟨a, b, c, e, _, _⟩ := h
  refine ⟨?_, ?_, ?_, ?_, ?_, ?_⟩
  · rw [hK, hM 6 (by omega)]; exact a
  · rw [hK, hM 9 (by omega)]; exact b
  · rw [hK, hM 10 (by omega)]; exact c
  · rw [hK, hM 11 (by omega)]; exact e
  · intro i hi; rw [hM 6 (by omega), h6] at hi; exact absurd hi (Nat.not_lt_zero i)
  · intro hh; rw [hM 6 (by omega), h6] at hh; exact absurd hh (by decide)
theorem df_end {T : Sh} {I K : Mi} {s p o t c q n l b : Nat} {L N A B : Nat → Int} (hS : ShS T s p o t c) (hst : StR L I s p o t N) (htc : tN N ≤ c) (hP0 : PmO N q n) (hLd : LdOk N q n) (hN2 : N 2 = (q : Int)) (hN0 : ¬ N 0 = 0) (hLs : (sgV L N).toNat ≤ 256) (hl : 1 ≤ l ∧ l ≤ 256) (hb : n + l - 1 = b)
   (f0 : ∀ x, x ≠ s → x ≠ s + 11 → x ≠ s + 12 → x ≠ s + 13 → x ≠ s + 14 → K x = I x) (e0 : K s = un (un (I s) 1 (rwS N 2870 b 8)) 0 5) (e11 : K (s + 11) = un (I (s + 11)) 0 (l : Int)) (e12 : K (s + 12) = rowR (I (s + 12)) (rwS N 2870 b) 2870 b) (e13 : K (s + 13) = A) (e14 : K (s + 14) = B)
   (hab : ∀ k, k < l → A k = parR (rwS N 2870 b) 276 2870 k n ∧ B k = parR (rwS N 2870 b) 532 2870 k n) : AcP T T I K s p o t c p o t c L (shZ N n l) q n 0 0 := by
  obtain ⟨hfl, hmk, hor, hky, hld, hfn⟩ := id hst
  have hn2 := hP0.2.2.1
  have hnn := hP0.nn
  obtain ⟨r1, r2⟩ := rwS_ok (r := 2870) hP0.1 (by decide) b (by omega)
  obtain ⟨l1, l2⟩ := laS_ok (n := n) r1 hn2 l hl.2
  have la := laS_at (M := rwS N 2870 b) hn2 l hl.2
  have hZ : shZ N n l = un (un (laS (rwS N 2870 b) n l) 6 (l : Int)) 0 5 := by unfold shZ; rw [hb]
  have hj : ∀ j, j < 2870 → j ≠ 0 → j ≠ 6 → j ≠ 8 → shZ N n l j = N j := fun j h h0 h6 h8 => by rw [hZ, un_ne h0, un_ne h6, l2 j (by omega), r2 j h8 (Or.inl h)]
  have hc : ∀ k, shZ N n l (k + 3902) = N (k + 3902) := fun k => by rw [hZ, un_ne (by omega), un_ne (by omega), l2 _ (by omega), r2 _ (by omega) (Or.inr (by omega))]
  have h8 : shZ N n l 8 = rwS N 2870 b 8 := by rw [hZ, un_ne (by decide), un_ne (by decide), l2 8 (by omega)]
  have h6 : shZ N n l 6 = (l : Int) := by rw [hZ, un_ne (by decide), un_at]
  have z0 : shZ N n l 0 = 5 := by rw [hZ, un_at]
  have ht : tN (shZ N n l) = tN N := by unfold tN; rw [hj 3 (by decide) (by decide) (by decide) (by decide)]
  have hn1 : nN (shZ N n l) = n := by unfold nN; rw [hj 1 (by decide) (by decide) (by decide) (by decide)]; exact hnn
  have hR : Rng (shZ N n l) := by rw [hZ]; exact Rng_un (Rng_un l1 (ok_6.mpr (by omega))) (ok_0.mpr (by omega))
  have qk : ∀ k, k = 0 ∨ k = 11 ∨ k = 12 ∨ k = 13 ∨ k = 14 → p ≠ s + k ∧ o ≠ s + k ∧ t ≠ s + k := fun k hk => ne_sk hS (by omega) (by omega) (by omega) (by omega)
  have hfn2 : FnR K s (shZ N n l) := by
    obtain ⟨a, b1, c1, e1, _, _⟩ := hfn
    refine ⟨?_, ?_, ?_, ?_, fun i hi => ?_, fun _ i hi => ?_⟩
    · rw [e11, un_at, h6]
    · rw [e11, un_ne (by decide), hj 9 (by decide) (by decide) (by decide) (by decide)]; exact b1
    · rw [e11, un_ne (by decide), hj 10 (by decide) (by decide) (by decide) (by decide)]; exact c1
    · rw [e11, un_ne (by decide), hj 11 (by decide) (by decide) (by decide) (by decide)]; exact e1
    · rw [h6, Int.toNat_natCast] at hi
      rw [e13, e14, hZ, un_ne (by omega), un_ne (by omega), un_ne (by omega), un_ne (by omega), (la i hi).1, (la i hi).2]
      exact hab i hi
    · rw [h6, Int.toNat_natCast, hn1] at hi
      rw [e12, rowR_in (by omega), hZ, un_ne (by omega), un_ne (by omega), l2 _ (by omega), Nat.add_comm]
  have hx := St_ch (K := K) (M := shZ N n l) hS hst hP0 hLd hN2 hN0 (by rw [z0]; decide) hLs hR (fun j _ j0 j6 _ j8 _ _ _ _ h => hj j h j0 j6 j8) hc ⟨by rw [e0, un_at, z0], by rw [e0, un_ne (by decide), un_at, h8], by rw [e0, un_ne (by decide), un_ne (by decide), hj 7 (by decide) (by decide) (by decide) (by decide)]; exact hfl.2.2.2.2.2.2.2.2⟩ (fun j j0 j1 _ => by rw [e0, un_ne j0, un_ne j1])
    (fun k hk => by rw [f0 _ (by omega) (by omega) (by omega) (by omega) (by omega), hj _ (by omega) (by omega) (by omega) (by omega)]; exact (hky.2 k (by omega)).2.1) (fun k _ k0 _ _ => f0 _ (by omega) (by omega) (by omega) (by omega) (by omega))
    ⟨f0 _ (qk 0 (by omega)).1 (qk 11 (by omega)).1 (qk 12 (by omega)).1 (qk 13 (by omega)).1 (qk 14 (by omega)).1, f0 _ (qk 0 (by omega)).2.1 (qk 11 (by omega)).2.1 (qk 12 (by omega)).2.1 (qk 13 (by omega)).2.1 (qk 14 (by omega)).2.1, f0 _ (qk 0 (by omega)).2.2 (qk 11 (by omega)).2.2 (qk 12 (by omega)).2.2 (qk 13 (by omega)).2.2 (qk 14 (by omega)).2.2⟩ hfn2
  exact ⟨hS, ⟨Ext.id _ _ _, Or.inl rfl, Or.inl rfl, Or.inl rfl⟩, fun x _ xs _ _ _ _ => f0 x (by omega) (by omega) (by omega) (by omega) (by omega), hx.1, by rw [ht]; exact htc, hx.2.1, hx.2.2⟩
theorem k_drawFinal {a u n q : Nat} {L : Nat → Int} {s p o t c : Nat} (hS : ShS T s p o t c) (hd : 2 ≤ d) (hu : ShP T u) (hL : ∀ k, k < 9 → I (u + 1) k = L k) (hp8 : 0 ≤ L 8 ∧ L 8 ≤ 50) (hst : StR L I s p o t N) (htc : tN N ≤ c) (hP0 : PmO N q n) (hLd : LdOk N q n) (hN2 : N 2 = (q : Int)) (hN0 : ¬ N 0 = 0) (hN6 : N 6 = 0) (hN5 : 0 ≤ N 5) (hLs : (sgV L N).toNat ≤ 256) (hq0 : lenS N n (tN N) (L 8) < 1 → ∀ K, AcP T T I K s p o t c p o t c L (un N 0 6) q n 0 0 → Q none T K) (hq1 : ∀ l : Nat, lenS N n (tN N) (L 8) = (l : Int) → 1 ≤ l → ∀ K, AcP T T I K s p o t c p o t c L (shZ N n l) q n 0 0 → Q none T K) : EvE G mX0_drawFinal d [aR a, aR s, aR u] T I Q := by
  have hne := neS hS
  obtain ⟨hfl, hmk, hor, hky, hld, hfn⟩ := id hst
  have hn2 := hP0.2.2.1
  have hnn := hP0.nn
  have hn0 : I (s + 3) 0 = (n : Int) := hky.1.trans hP0.2.1
  have h5 := ok_5.mp (hP0.1 5)
  have h3 := ok_3.mp (hP0.1 3)
  have ht3 := tN_rd hP0.1
  have hmul : 0 ≤ 2 * N 5 * (n : Int) ∧ 2 * N 5 * (n : Int) ≤ 1000 * 256 := ⟨Int.mul_nonneg (by omega) (by omega), Int.mul_le_mul (by omega) (by omega) (by omega) (by omega)⟩
  have hdv : 0 ≤ 2 * N 5 * (n : Int) / 1000 ∧ 2 * N 5 * (n : Int) / 1000 ≤ 256 := ⟨Int.ediv_nonneg hmul.1 (by decide), by omega⟩
  have ql := ne_sk hS (k := 0) (by decide) (by decide) (by decide) (by decide)
  clear hne
  refine EvE.mk (lv0 := [some (aR a), some (aR s), some (aR u), none, none, none, none]) (Nat.le_of_ble_eq_true rfl) (by decide +kernel) rfl ?_
  refine r_aload_n (pc := 0) (i := 1) dX0_drawFinal_0 rfl rfl ?_
  refine r_getfr (pc := 1) (b := s + 3) cks dX0_drawFinal_1 fl_X0_45 rfl (kS0 hS) (ltS0 hS) (rS0_11 hS) ?_
  refine r_getfi (pc := 4) cks dX0_drawFinal_4 fl_X0_61 rfl (kS3 hS) (ltS (k := 3) hS (by omega)) ?_
  refine r_top (b := (n : Int)) (hn0) ?_
  refine r_istore_n (pc := 7) (i := 3) (lv' := [_, _, _, _, _, _, _]) dX0_drawFinal_7 rfl (by decide) rfl ?_
  refine r_iconst (pc := 8) dX0_drawFinal_8 (in32_of rfl) ?_
  refine r_aload_n (pc := 9) (i := 1) dX0_drawFinal_9 rfl rfl ?_
  refine r_getfi (pc := 10) cks dX0_drawFinal_10 fl_X0_78 rfl (kS0 hS) (ltS0 hS) ?_
  refine r_top (b := N 5) (hfl.2.2.2.2.2.1) ?_
  refine r_imulN (pc := 13) (c := (2 * N 5)) dX0_drawFinal_13 (by unfold w32; omega) ?_
  refine r_iload_n (pc := 14) (i := 3) dX0_drawFinal_14 rfl rfl ?_
  refine r_imulN (pc := 15) (c := (2 * N 5 * (n : Int))) dX0_drawFinal_15 (w32_id (by unfold in32; omega)) ?_
  refine r_sipush (pc := 16) dX0_drawFinal_16 rfl (in32_of rfl) ?_
  refine r_idiv (pc := 19) dX0_drawFinal_19 (by omega) ?_
  refine r_top (b := (2 * N 5 * (n : Int) / 1000)) (by rw [idv_n (by unfold in32; omega) (by unfold in32; omega) (by omega) (by omega)]) ?_
  refine r_istore (pc := 20) (i := 4) (lv' := [_, _, _, _, _, _, _]) dX0_drawFinal_20 (by decide) rfl ?_
  refine r_iload_n (pc := 22) (i := 3) dX0_drawFinal_22 rfl rfl ?_
  refine r_aload_n (pc := 23) (i := 1) dX0_drawFinal_23 rfl rfl ?_
  refine r_getfr (pc := 24) (b := s + 7) cks dX0_drawFinal_24 fl_X0_107 rfl (kS0 hS) (ltS0 hS) (rS0_12 hS) ?_
  refine r_getfi (pc := 27) cks dX0_drawFinal_27 fl_X0_117 rfl (kS7 hS) (ltS (k := 7) hS (by omega)) ?_
  refine r_top (b := (tN N : Int)) (hld.1.trans (tN_rd hP0.1)) ?_
  refine r_isubN (pc := 30) (c := (((n : Nat) : Int) - (((tN N) : Nat) : Int))) dX0_drawFinal_30 (by unfold w32; omega) ?_
  refine r_iload (pc := 31) (i := 4) dX0_drawFinal_31 rfl ?_
  refine r_isubN (pc := 33) (c := (((n : Nat) : Int) - (((tN N) : Nat) : Int) - (2 * N 5 * (n : Int) / 1000))) dX0_drawFinal_33 (by unfold w32; omega) ?_
  refine r_aload_n (pc := 34) (i := 2) dX0_drawFinal_34 rfl rfl ?_
  refine r_bipush (pc := 35) dX0_drawFinal_35 rfl (in32_of rfl) ?_
  refine r_callV1 (pc := 37) (d - 1) [aI 8] dX0_drawFinal_37 (CV.mk2 mk_X6_number lk_X0_24) (RC.of (ltP0 hu) (kP0 hu) (by decide) rfl) rfl rfl (by omega) (Nat.le_of_ble_eq_true rfl) (Nat.le_of_ble_eq_true rfl) (k_num (L := L) hu 8 (by decide) (fun k_ hk_ => (congrFun (show I (u + 1) = I (u + 1) from rfl) k_).trans (hL k_ hk_)) ?_)
  refine ⟨_, rfl, fun _ => ?_⟩
  refine r_isubN (pc := 40) (c := (lenS N n (tN N) (L 8))) dX0_drawFinal_40 (by unfold lenS; unfold w32; omega) ?_
  refine r_istore (pc := 41) (i := 5) (lv' := [_, _, _, _, _, _, _]) dX0_drawFinal_41 (by decide) rfl ?_
  refine r_iload (pc := 43) (i := 5) dX0_drawFinal_43 rfl ?_
  refine r_iconst (pc := 45) dX0_drawFinal_45 (in32_of rfl) ?_
  refine r_icmp_ge (pc := 46) (tgt := 56) dX0_drawFinal_46 rfl (fun c46 => ?_) (fun c46 => ?_)
  · obtain ⟨l, hl⟩ : ∃ l : Nat, lenS N n (tN N) (L 8) = (l : Int) := ⟨(lenS N n (tN N) (L 8)).toNat, by omega⟩
    have hl1 : 1 ≤ l ∧ l ≤ 256 := by have h0 : 0 ≤ 2 * N 5 * (n : Int) / 1000 := Int.ediv_nonneg (Int.mul_nonneg (by omega) (by omega)) (by decide); unfold lenS at hl c46; omega
    obtain ⟨b, hb⟩ : ∃ b, n + l - 1 = b := ⟨_, rfl⟩
    have hrk := rwS_ok (r := 2870) hP0.1 (by decide) b (by omega)
    have hrl : ∀ j, j < 2870 → j ≠ 8 → rwS N 2870 b j = N j := fun j h1 h2 => hrk.2 j h2 (Or.inl h1)
    refine Ev.re (lv2 := [some (aR a), some (aR s), some (aR u), some (aI ((n : Nat) : Int)), some (aI (2 * N 5 * (n : Int) / 1000)), some (aI ((l : Nat) : Int)), none]) (by rw [hl]) rfl ?_
    refine r_aload_n (pc := 56) (i := 1) dX0_drawFinal_56 rfl rfl ?_
    refine r_aload_n (pc := 57) (i := 1) dX0_drawFinal_57 rfl rfl ?_
    refine r_getfr (pc := 58) (b := s + 11) cks dX0_drawFinal_58 fl_X0_120 rfl (kS0 hS) (ltS0 hS) (rS0_13 hS) ?_
    refine r_getfr (pc := 61) (b := s + 12) cks dX0_drawFinal_61 fl_X0_124 rfl (kS11 hS) (ltS (k := 11) hS (by omega)) (rS11_1 hS) ?_
    refine r_iload_n (pc := 64) (i := 3) dX0_drawFinal_64 rfl rfl ?_
    refine r_iload (pc := 65) (i := 5) dX0_drawFinal_65 rfl ?_
    refine r_iaddN (pc := 67) (c := ((n + l : Nat) : Int)) dX0_drawFinal_67 (by unfold w32; omega) ?_
    refine r_iconst (pc := 68) dX0_drawFinal_68 (in32_of rfl) ?_
    refine r_isubN (pc := 69) (c := ((b : Nat) : Int)) dX0_drawFinal_69 (by unfold w32; omega) ?_
    refine r_callS0 (pc := 70) (d - 1) [aR s, aR (s + 12), aI ((b : Nat) : Int)] dX0_drawFinal_70 (CS.mk2 mk_X0_drawRow lk_X0_89) rfl rfl (by omega) (Nat.le_of_ble_eq_true rfl) (Nat.le_of_ble_eq_true rfl) (k_drawRow (x := s + 12) (lx := 512) (b := b) (r := 2870) (N := N) hS (by omega) (kS12 hS) (ltS hS (by omega)) (lS12 hS) (by omega) hst.1.2.1 hP0.1 (by decide) (by omega) (by omega) (by omega) ?_)
    refine ⟨rfl, fun _ => ?_⟩
    refine r_mem (I2 := sr (sr I s (un (I s) 1 ((rwS N 2870 b) 8))) (s + 12) (rowR (I (s + 12)) (rwS N 2870 b) 2870 b)) ((congr (congrArg (fun v0_ v1_ => (sr (sr I s (un v0_ 1 ((rwS N 2870 b) 8))) (s + 12) (rowR v1_ (rwS N 2870 b) 2870 b))) (show I s = I s from rfl)) (show I (s + 12) = I (s + 12) from rfl)).trans ((congrArg (fun X => sr X (s + 12) (rowR (I (s + 12)) (rwS N 2870 b) 2870 b)) (rfl)).trans (rfl))) ?_
    refine r_iconst (pc := 73) dX0_drawFinal_73 (in32_of rfl) ?_
    refine r_istore (pc := 74) (i := 6) (lv' := [_, _, _, _, _, _, _]) dX0_drawFinal_74 (by decide) rfl ?_
    refine r_mem (I2 := sr (sr (sr I s (un (I s) 1 ((rwS N 2870 b) 8))) (s + 12) (rowR (I (s + 12)) (rwS N 2870 b) 2870 b)) (s + 13) (I (s + 13))) (((congrArg (fun f_ => sr (sr (sr I s (un (I s) 1 ((rwS N 2870 b) 8))) (s + 12) (rowR (I (s + 12)) (rwS N 2870 b) 2870 b)) (s + 13) f_) (show (sr (sr I s (un (I s) 1 ((rwS N 2870 b) 8))) (s + 12) (rowR (I (s + 12)) (rwS N 2870 b) 2870 b)) (s + 13) = I (s + 13) from (sr_ne (by omega)).trans ((sr_ne (by omega)).trans (rfl)))).symm.trans (sr_id _ _)).symm) ?_
    refine r_mem (I2 := sr (sr (sr (sr I s (un (I s) 1 ((rwS N 2870 b) 8))) (s + 12) (rowR (I (s + 12)) (rwS N 2870 b) 2870 b)) (s + 13) (I (s + 13))) (s + 14) (I (s + 14))) (((congrArg (fun f_ => sr (sr (sr (sr I s (un (I s) 1 ((rwS N 2870 b) 8))) (s + 12) (rowR (I (s + 12)) (rwS N 2870 b) 2870 b)) (s + 13) (I (s + 13))) (s + 14) f_) (show (sr (sr (sr I s (un (I s) 1 ((rwS N 2870 b) 8))) (s + 12) (rowR (I (s + 12)) (rwS N 2870 b) 2870 b)) (s + 13) (I (s + 13))) (s + 14) = I (s + 14) from (sr_ne (by omega)).trans ((sr_ne (by omega)).trans ((sr_ne (by omega)).trans (rfl))))).symm.trans (sr_id _ _)).symm) ?_
    refine Ev.weak (lv2 := [some (aR a), some (aR s), some (aR u), some (aI ((n : Nat) : Int)), none, some (aI ((l : Nat) : Int)), some (aI 0)]) ⟨Or.inr rfl, Or.inr rfl, Or.inr rfl, Or.inr rfl, Or.inl rfl, Or.inr rfl, Or.inr rfl, trivial⟩ ?_
    refine loop2 (fun (i : Nat) (D : (Nat → Int) × (Nat → Int)) => i ≤ l ∧ ∀ k, k < i → D.1 k = parR (rwS N 2870 b) 276 2870 k n ∧ D.2 k = parR (rwS N 2870 b) 532 2870 k n) (fun (i : Nat) (D : (Nat → Int) × (Nat → Int)) => l - i) (fun (i : Nat) (D : (Nat → Int) × (Nat → Int)) => [some (aR a), some (aR s), some (aR u), some (aI ((n : Nat) : Int)), none, some (aI ((l : Nat) : Int)), some (aI ((i : Nat) : Int))]) (fun _ _ => T) (fun (i : Nat) (D : (Nat → Int) × (Nat → Int)) => sr (sr (sr (sr I s (un (I s) 1 ((rwS N 2870 b) 8))) (s + 12) (rowR (I (s + 12)) (rwS N 2870 b) 2870 b)) (s + 13) D.1) (s + 14) D.2) ?_ 0 (I (s + 13), I (s + 14)) ⟨Nat.zero_le _, fun k hk => absurd hk (Nat.not_lt_zero k)⟩
    intro i D hP ih
    have hP : i ≤ l ∧ ∀ k, k < i → D.1 k = parR (rwS N 2870 b) 276 2870 k n ∧ D.2 k = parR (rwS N 2870 b) 532 2870 k n := hP
    refine (?_ : Ev G mX0_drawFinal d 76 [some (aR a), some (aR s), some (aR u), some (aI ((n : Nat) : Int)), none, some (aI ((l : Nat) : Int)), some (aI ((i : Nat) : Int))] [] T (sr (sr (sr (sr I s (un (I s) 1 ((rwS N 2870 b) 8))) (s + 12) (rowR (I (s + 12)) (rwS N 2870 b) 2870 b)) (s + 13) D.1) (s + 14) D.2) Q)
    refine r_iload (pc := 76) (i := 6) dX0_drawFinal_76 rfl ?_
    refine r_iload (pc := 78) (i := 5) dX0_drawFinal_78 rfl ?_
    refine r_icmp_ge (pc := 80) (tgt := 155) dX0_drawFinal_80 rfl (fun c80 => ?_) (fun c80 => ?_)
    · refine r_aload_n (pc := 155) (i := 1) dX0_drawFinal_155 rfl rfl ?_
      refine r_getfr (pc := 156) (b := s + 11) cks dX0_drawFinal_156 fl_X0_120 rfl (kS0 hS) (ltS0 hS) (rS0_13 hS) ?_
      refine r_iload (pc := 159) (i := 5) dX0_drawFinal_159 rfl ?_
      refine r_putfi (pc := 161) cks dX0_drawFinal_161 fl_X0_129 (pf_1_0 _ _) rfl (kS11 hS) (ltS (k := 11) hS (by omega)) ?_
      refine r_mem (I2 := sr (sr (sr (sr (sr I s (un (I s) 1 ((rwS N 2870 b) 8))) (s + 12) (rowR (I (s + 12)) (rwS N 2870 b) 2870 b)) (s + 13) D.1) (s + 14) D.2) (s + 11) (un (I (s + 11)) 0 ((l : Nat) : Int))) ((up2_row _ _ _ _).trans ((congrArg (fun fz_ => sr (sr (sr (sr (sr I s (un (I s) 1 ((rwS N 2870 b) 8))) (s + 12) (rowR (I (s + 12)) (rwS N 2870 b) 2870 b)) (s + 13) D.1) (s + 14) D.2) (s + 11) (un fz_ 0 ((l : Nat) : Int))) (show (sr (sr (sr (sr I s (un (I s) 1 ((rwS N 2870 b) 8))) (s + 12) (rowR (I (s + 12)) (rwS N 2870 b) 2870 b)) (s + 13) D.1) (s + 14) D.2) (s + 11) = I (s + 11) from (sr_ne (by omega)).trans ((sr_ne (by omega)).trans ((sr_ne (by omega)).trans ((sr_ne (by omega)).trans (rfl)))))).trans (rfl))) ?_
      refine r_aload_n (pc := 164) (i := 1) dX0_drawFinal_164 rfl rfl ?_
      refine r_iconst (pc := 165) dX0_drawFinal_165 (in32_of rfl) ?_
      refine r_putfi (pc := 166) cks dX0_drawFinal_166 fl_X0_55 (pf_9_0 _ _) rfl (kS0 hS) (ltS0 hS) ?_
      refine r_mem (I2 := sr (sr (sr (sr (sr I s (un (un (I s) 1 ((rwS N 2870 b) 8)) 0 5)) (s + 12) (rowR (I (s + 12)) (rwS N 2870 b) 2870 b)) (s + 13) D.1) (s + 14) D.2) (s + 11) (un (I (s + 11)) 0 ((l : Nat) : Int))) ((up2_row _ _ _ _).trans ((congrArg (fun fz_ => sr (sr (sr (sr (sr (sr I s (un (I s) 1 ((rwS N 2870 b) 8))) (s + 12) (rowR (I (s + 12)) (rwS N 2870 b) 2870 b)) (s + 13) D.1) (s + 14) D.2) (s + 11) (un (I (s + 11)) 0 ((l : Nat) : Int))) s (un fz_ 0 5)) (show (sr (sr (sr (sr (sr I s (un (I s) 1 ((rwS N 2870 b) 8))) (s + 12) (rowR (I (s + 12)) (rwS N 2870 b) 2870 b)) (s + 13) D.1) (s + 14) D.2) (s + 11) (un (I (s + 11)) 0 ((l : Nat) : Int))) s = un (I s) 1 ((rwS N 2870 b) 8) from (sr_ne (by omega)).trans ((sr_ne (by omega)).trans ((sr_ne (by omega)).trans ((sr_ne (by omega)).trans (sr_row _ _ _)))))).trans ((sr_comm (by omega)).trans (congrArg (fun J => sr J (s + 11) (un (I (s + 11)) 0 ((l : Nat) : Int))) ((sr_comm (by omega)).trans (congrArg (fun J => sr J (s + 14) D.2) ((sr_comm (by omega)).trans (congrArg (fun J => sr J (s + 13) D.1) ((sr_comm (by omega)).trans (congrArg (fun J => sr J (s + 12) (rowR (I (s + 12)) (rwS N 2870 b) 2870 b)) (sr_sr _ _ _ _))))))))))) ?_
      have hil : l = i := by omega
      subst hil
      have e0 : (sr (sr (sr (sr (sr I s (un (un (I s) 1 ((rwS N 2870 b) 8)) 0 5)) (s + 12) (rowR (I (s + 12)) (rwS N 2870 b) 2870 b)) (s + 13) D.1) (s + 14) D.2) (s + 11) (un (I (s + 11)) 0 ((l : Nat) : Int))) (s) = un (un (I s) 1 ((rwS N 2870 b) 8)) 0 5 := show (sr (sr (sr (sr (sr I s (un (un (I s) 1 ((rwS N 2870 b) 8)) 0 5)) (s + 12) (rowR (I (s + 12)) (rwS N 2870 b) 2870 b)) (s + 13) D.1) (s + 14) D.2) (s + 11) (un (I (s + 11)) 0 ((l : Nat) : Int))) s = un (un (I s) 1 ((rwS N 2870 b) 8)) 0 5 from (sr_ne (by omega)).trans ((sr_ne (by omega)).trans ((sr_ne (by omega)).trans ((sr_ne (by omega)).trans (sr_row _ _ _))))
      have e11 : (sr (sr (sr (sr (sr I s (un (un (I s) 1 ((rwS N 2870 b) 8)) 0 5)) (s + 12) (rowR (I (s + 12)) (rwS N 2870 b) 2870 b)) (s + 13) D.1) (s + 14) D.2) (s + 11) (un (I (s + 11)) 0 ((l : Nat) : Int))) (s + 11) = un (I (s + 11)) 0 ((l : Nat) : Int) := show (sr (sr (sr (sr (sr I s (un (un (I s) 1 ((rwS N 2870 b) 8)) 0 5)) (s + 12) (rowR (I (s + 12)) (rwS N 2870 b) 2870 b)) (s + 13) D.1) (s + 14) D.2) (s + 11) (un (I (s + 11)) 0 ((l : Nat) : Int))) (s + 11) = un (I (s + 11)) 0 ((l : Nat) : Int) from sr_row _ _ _
      have e12 : (sr (sr (sr (sr (sr I s (un (un (I s) 1 ((rwS N 2870 b) 8)) 0 5)) (s + 12) (rowR (I (s + 12)) (rwS N 2870 b) 2870 b)) (s + 13) D.1) (s + 14) D.2) (s + 11) (un (I (s + 11)) 0 ((l : Nat) : Int))) (s + 12) = rowR (I (s + 12)) (rwS N 2870 b) 2870 b := show (sr (sr (sr (sr (sr I s (un (un (I s) 1 ((rwS N 2870 b) 8)) 0 5)) (s + 12) (rowR (I (s + 12)) (rwS N 2870 b) 2870 b)) (s + 13) D.1) (s + 14) D.2) (s + 11) (un (I (s + 11)) 0 ((l : Nat) : Int))) (s + 12) = rowR (I (s + 12)) (rwS N 2870 b) 2870 b from (sr_ne (by omega)).trans ((sr_ne (by omega)).trans ((sr_ne (by omega)).trans (sr_row _ _ _)))
      have e13 : (sr (sr (sr (sr (sr I s (un (un (I s) 1 ((rwS N 2870 b) 8)) 0 5)) (s + 12) (rowR (I (s + 12)) (rwS N 2870 b) 2870 b)) (s + 13) D.1) (s + 14) D.2) (s + 11) (un (I (s + 11)) 0 ((l : Nat) : Int))) (s + 13) = D.1 := show (sr (sr (sr (sr (sr I s (un (un (I s) 1 ((rwS N 2870 b) 8)) 0 5)) (s + 12) (rowR (I (s + 12)) (rwS N 2870 b) 2870 b)) (s + 13) D.1) (s + 14) D.2) (s + 11) (un (I (s + 11)) 0 ((l : Nat) : Int))) (s + 13) = D.1 from (sr_ne (by omega)).trans ((sr_ne (by omega)).trans (sr_row _ _ _))
      have e14 : (sr (sr (sr (sr (sr I s (un (un (I s) 1 ((rwS N 2870 b) 8)) 0 5)) (s + 12) (rowR (I (s + 12)) (rwS N 2870 b) 2870 b)) (s + 13) D.1) (s + 14) D.2) (s + 11) (un (I (s + 11)) 0 ((l : Nat) : Int))) (s + 14) = D.2 := show (sr (sr (sr (sr (sr I s (un (un (I s) 1 ((rwS N 2870 b) 8)) 0 5)) (s + 12) (rowR (I (s + 12)) (rwS N 2870 b) 2870 b)) (s + 13) D.1) (s + 14) D.2) (s + 11) (un (I (s + 11)) 0 ((l : Nat) : Int))) (s + 14) = D.2 from (sr_ne (by omega)).trans (sr_row _ _ _)
      obtain ⟨K, hK⟩ : ∃ K, K = sr (sr (sr (sr (sr I s (un (un (I s) 1 ((rwS N 2870 b) 8)) 0 5)) (s + 12) (rowR (I (s + 12)) (rwS N 2870 b) 2870 b)) (s + 13) D.1) (s + 14) D.2) (s + 11) (un (I (s + 11)) 0 ((l : Nat) : Int)) := ⟨_, rfl⟩
      rw [← hK] at e0 e11 e12 e13 e14
      have f0 : ∀ x, x ≠ s → x ≠ s + 11 → x ≠ s + 12 → x ≠ s + 13 → x ≠ s + 14 → K x = I x := fun x h0 h1 h2 h3 h4 => by rw [hK, sr_ne (by assumption), sr_ne (by assumption), sr_ne (by assumption), sr_ne (by assumption), sr_ne (by assumption)]
      exact r_vret (pc := 169) dX0_drawFinal_169 trivial (by rw [← hK]; exact hq1 l hl hl1.1 _ (df_end hS hst htc hP0 hLd hN2 hN0 hLs hl1 hb f0 e0 e11 e12 e13 e14 hP.2))
    · refine r_aload_n (pc := 83) (i := 1) dX0_drawFinal_83 rfl rfl ?_
      refine r_getfr (pc := 84) (b := s + 11) cks dX0_drawFinal_84 fl_X0_120 rfl (kS0 hS) (ltS0 hS) (rS0_13 hS) ?_
      refine r_getfr (pc := 87) (b := s + 13) cks dX0_drawFinal_87 fl_X0_127 rfl (kS11 hS) (ltS (k := 11) hS (by omega)) (rS11_2 hS) ?_
      refine r_iload (pc := 90) (i := 6) dX0_drawFinal_90 rfl ?_
      refine r_aload_n (pc := 92) (i := 1) dX0_drawFinal_92 rfl rfl ?_
      refine r_getfr (pc := 93) (b := s + 3) cks dX0_drawFinal_93 fl_X0_45 rfl (kS0 hS) (ltS0 hS) (rS0_11 hS) ?_
      refine r_aload_n (pc := 96) (i := 1) dX0_drawFinal_96 rfl rfl ?_
      refine r_getfr (pc := 97) (b := s + 3) cks dX0_drawFinal_97 fl_X0_45 rfl (kS0 hS) (ltS0 hS) (rS0_11 hS) ?_
      refine r_getfr (pc := 100) (b := s + 4) cks dX0_drawFinal_100 fl_X0_93 rfl (kS3 hS) (ltS (k := 3) hS (by omega)) (rS3_1 hS) ?_
      refine r_aload_n (pc := 103) (i := 1) dX0_drawFinal_103 rfl rfl ?_
      refine r_getfr (pc := 104) (b := s + 11) cks dX0_drawFinal_104 fl_X0_120 rfl (kS0 hS) (ltS0 hS) (rS0_13 hS) ?_
      refine r_getfr (pc := 107) (b := s + 12) cks dX0_drawFinal_107 fl_X0_124 rfl (kS11 hS) (ltS (k := 11) hS (by omega)) (rS11_1 hS) ?_
      refine r_iload (pc := 110) (i := 6) dX0_drawFinal_110 rfl ?_
      refine r_callV1 (pc := 112) (d - 1) [aR (s + 4), aR (s + 12), aI ((i : Nat) : Int)] dX0_drawFinal_112 (CV.mk2 mk_X3_parity lk_X0_96) (RC.of (ltS (k := 3) hS (by omega)) (kS3 hS) (by decide) rfl) rfl rfl (by omega) (Nat.le_of_ble_eq_true rfl) (Nat.le_of_ble_eq_true rfl) (k_parity (n := n) (x := s + 4) (y := s + 12) (i := i) (lx := 256) (ly := 512) hS ((congrFun (show (sr (sr (sr (sr I s (un (I s) 1 ((rwS N 2870 b) 8))) (s + 12) (rowR (I (s + 12)) (rwS N 2870 b) 2870 b)) (s + 13) D.1) (s + 14) D.2) (s + 3) = I (s + 3) from (sr_ne (by omega)).trans ((sr_ne (by omega)).trans ((sr_ne (by omega)).trans ((sr_ne (by omega)).trans (rfl))))) 0).trans hn0) hn2 (kS4 hS) (ltS hS (by omega)) (lS4 hS) (kS12 hS) (ltS hS (by omega)) (lS12 hS) (by omega) (by omega) (by omega) ?_)
      refine ⟨_, rfl, fun _ => ?_⟩
      refine r_top (b := parR (rwS N 2870 b) 276 2870 i n) (kp_par n (fun k hk => ⟨(congrFun (show (sr (sr (sr (sr I s (un (I s) 1 ((rwS N 2870 b) 8))) (s + 12) (rowR (I (s + 12)) (rwS N 2870 b) 2870 b)) (s + 13) D.1) (s + 14) D.2) (s + 4) = I (s + 4) from (sr_ne (by omega)).trans ((sr_ne (by omega)).trans ((sr_ne (by omega)).trans ((sr_ne (by omega)).trans (rfl))))) k).trans (((hky.2 k (by omega)).1).trans (hrl _ (by omega) (by omega)).symm), (congrFun (show (sr (sr (sr (sr I s (un (I s) 1 ((rwS N 2870 b) 8))) (s + 12) (rowR (I (s + 12)) (rwS N 2870 b) 2870 b)) (s + 13) D.1) (s + 14) D.2) (s + 12) = rowR (I (s + 12)) (rwS N 2870 b) 2870 b from (sr_ne (by omega)).trans ((sr_ne (by omega)).trans (sr_row _ _ _))) (i + k)).trans ((rowR_in (by omega)).trans (congrArg (rwS N 2870 b) (Nat.add_assoc _ _ _).symm))⟩)) ?_
      refine r_ist (pc := 115) (i) dX0_drawFinal_115 (kS13 hS) (ltS (k := 13) hS (by omega)) rfl (by rw [lS13 hS]; omega) ?_
      refine r_mem (I2 := sr (sr (sr (sr I s (un (I s) 1 ((rwS N 2870 b) 8))) (s + 12) (rowR (I (s + 12)) (rwS N 2870 b) 2870 b)) (s + 13) (un D.1 i (parR (rwS N 2870 b) 276 2870 i n))) (s + 14) D.2) ((up2_row _ _ _ _).trans ((congrArg (fun fz_ => sr (sr (sr (sr (sr I s (un (I s) 1 ((rwS N 2870 b) 8))) (s + 12) (rowR (I (s + 12)) (rwS N 2870 b) 2870 b)) (s + 13) D.1) (s + 14) D.2) (s + 13) (un fz_ i (parR (rwS N 2870 b) 276 2870 i n))) (show (sr (sr (sr (sr I s (un (I s) 1 ((rwS N 2870 b) 8))) (s + 12) (rowR (I (s + 12)) (rwS N 2870 b) 2870 b)) (s + 13) D.1) (s + 14) D.2) (s + 13) = D.1 from (sr_ne (by omega)).trans (sr_row _ _ _))).trans ((sr_comm (by omega)).trans (congrArg (fun J => sr J (s + 14) D.2) (sr_sr _ _ _ _))))) ?_
      refine r_aload_n (pc := 116) (i := 1) dX0_drawFinal_116 rfl rfl ?_
      refine r_getfr (pc := 117) (b := s + 11) cks dX0_drawFinal_117 fl_X0_120 rfl (kS0 hS) (ltS0 hS) (rS0_13 hS) ?_
      refine r_getfr (pc := 120) (b := s + 14) cks dX0_drawFinal_120 fl_X0_128 rfl (kS11 hS) (ltS (k := 11) hS (by omega)) (rS11_3 hS) ?_
      refine r_iload (pc := 123) (i := 6) dX0_drawFinal_123 rfl ?_
      refine r_aload_n (pc := 125) (i := 1) dX0_drawFinal_125 rfl rfl ?_
      refine r_getfr (pc := 126) (b := s + 3) cks dX0_drawFinal_126 fl_X0_45 rfl (kS0 hS) (ltS0 hS) (rS0_11 hS) ?_
      refine r_aload_n (pc := 129) (i := 1) dX0_drawFinal_129 rfl rfl ?_
      refine r_getfr (pc := 130) (b := s + 3) cks dX0_drawFinal_130 fl_X0_45 rfl (kS0 hS) (ltS0 hS) (rS0_11 hS) ?_
      refine r_getfr (pc := 133) (b := s + 5) cks dX0_drawFinal_133 fl_X0_100 rfl (kS3 hS) (ltS (k := 3) hS (by omega)) (rS3_2 hS) ?_
      refine r_aload_n (pc := 136) (i := 1) dX0_drawFinal_136 rfl rfl ?_
      refine r_getfr (pc := 137) (b := s + 11) cks dX0_drawFinal_137 fl_X0_120 rfl (kS0 hS) (ltS0 hS) (rS0_13 hS) ?_
      refine r_getfr (pc := 140) (b := s + 12) cks dX0_drawFinal_140 fl_X0_124 rfl (kS11 hS) (ltS (k := 11) hS (by omega)) (rS11_1 hS) ?_
      refine r_iload (pc := 143) (i := 6) dX0_drawFinal_143 rfl ?_
      refine r_callV1 (pc := 145) (d - 1) [aR (s + 5), aR (s + 12), aI ((i : Nat) : Int)] dX0_drawFinal_145 (CV.mk2 mk_X3_parity lk_X0_96) (RC.of (ltS (k := 3) hS (by omega)) (kS3 hS) (by decide) rfl) rfl rfl (by omega) (Nat.le_of_ble_eq_true rfl) (Nat.le_of_ble_eq_true rfl) (k_parity (n := n) (x := s + 5) (y := s + 12) (i := i) (lx := 256) (ly := 512) hS ((congrFun (show (sr (sr (sr (sr I s (un (I s) 1 ((rwS N 2870 b) 8))) (s + 12) (rowR (I (s + 12)) (rwS N 2870 b) 2870 b)) (s + 13) (un D.1 i (parR (rwS N 2870 b) 276 2870 i n))) (s + 14) D.2) (s + 3) = I (s + 3) from (sr_ne (by omega)).trans ((sr_ne (by omega)).trans ((sr_ne (by omega)).trans ((sr_ne (by omega)).trans (rfl))))) 0).trans hn0) hn2 (kS5 hS) (ltS hS (by omega)) (lS5 hS) (kS12 hS) (ltS hS (by omega)) (lS12 hS) (by omega) (by omega) (by omega) ?_)
      refine ⟨_, rfl, fun _ => ?_⟩
      refine r_top (b := parR (rwS N 2870 b) 532 2870 i n) (kp_par n (fun k hk => ⟨(congrFun (show (sr (sr (sr (sr I s (un (I s) 1 ((rwS N 2870 b) 8))) (s + 12) (rowR (I (s + 12)) (rwS N 2870 b) 2870 b)) (s + 13) (un D.1 i (parR (rwS N 2870 b) 276 2870 i n))) (s + 14) D.2) (s + 5) = I (s + 5) from (sr_ne (by omega)).trans ((sr_ne (by omega)).trans ((sr_ne (by omega)).trans ((sr_ne (by omega)).trans (rfl))))) k).trans (((hky.2 k (by omega)).2.1).trans (hrl _ (by omega) (by omega)).symm), (congrFun (show (sr (sr (sr (sr I s (un (I s) 1 ((rwS N 2870 b) 8))) (s + 12) (rowR (I (s + 12)) (rwS N 2870 b) 2870 b)) (s + 13) (un D.1 i (parR (rwS N 2870 b) 276 2870 i n))) (s + 14) D.2) (s + 12) = rowR (I (s + 12)) (rwS N 2870 b) 2870 b from (sr_ne (by omega)).trans ((sr_ne (by omega)).trans (sr_row _ _ _))) (i + k)).trans ((rowR_in (by omega)).trans (congrArg (rwS N 2870 b) (Nat.add_assoc _ _ _).symm))⟩)) ?_
      refine r_ist (pc := 148) (i) dX0_drawFinal_148 (kS14 hS) (ltS (k := 14) hS (by omega)) rfl (by rw [lS14 hS]; omega) ?_
      refine r_mem (I2 := sr (sr (sr (sr I s (un (I s) 1 ((rwS N 2870 b) 8))) (s + 12) (rowR (I (s + 12)) (rwS N 2870 b) 2870 b)) (s + 13) (un D.1 i (parR (rwS N 2870 b) 276 2870 i n))) (s + 14) (un D.2 i (parR (rwS N 2870 b) 532 2870 i n))) ((up2_row _ _ _ _).trans ((congrArg (fun fz_ => sr (sr (sr (sr (sr I s (un (I s) 1 ((rwS N 2870 b) 8))) (s + 12) (rowR (I (s + 12)) (rwS N 2870 b) 2870 b)) (s + 13) (un D.1 i (parR (rwS N 2870 b) 276 2870 i n))) (s + 14) D.2) (s + 14) (un fz_ i (parR (rwS N 2870 b) 532 2870 i n))) (show (sr (sr (sr (sr I s (un (I s) 1 ((rwS N 2870 b) 8))) (s + 12) (rowR (I (s + 12)) (rwS N 2870 b) 2870 b)) (s + 13) (un D.1 i (parR (rwS N 2870 b) 276 2870 i n))) (s + 14) D.2) (s + 14) = D.2 from sr_row _ _ _)).trans (sr_sr _ _ _ _))) ?_
      refine r_iincN (pc := 149) (i := 6) (c := ((i + 1 : Nat) : Int)) (lv' := [_, _, _, _, _, _, _]) dX0_drawFinal_149 rfl (by decide) (by unfold w32; omega) rfl ?_
      refine r_goto (pc := 152) (tgt := 76) dX0_drawFinal_152 rfl ?_
      exact ih (i + 1) (un D.1 i (parR (rwS N 2870 b) 276 2870 i n), un D.2 i (parR (rwS N 2870 b) 532 2870 i n)) ⟨by omega, fun k hk => df_un hk hP.2⟩ (by omega)
  · refine r_aload_n (pc := 49) (i := 1) dX0_drawFinal_49 rfl rfl ?_
    refine r_bipush (pc := 50) dX0_drawFinal_50 rfl (in32_of rfl) ?_
    refine r_putfi (pc := 52) cks dX0_drawFinal_52 fl_X0_55 (pf_9_0 _ _) rfl (kS0 hS) (ltS0 hS) ?_
    refine r_mem (I2 := sr I s (un (I s) 0 6)) ((up2_row _ _ _ _).trans ((congrArg (fun fz_ => sr I s (un fz_ 0 6)) (show I s = I s from rfl)).trans (rfl))) ?_
    have fs : (sr I s (un (I s) 0 6)) s = un (I s) 0 6 := sr_row _ _ _
    have f0 : ∀ x, x ≠ s → (sr I s (un (I s) 0 6)) x = I x := fun x hx => sr_ne hx
    have hx := St_ch (K := sr I s (un (I s) 0 6)) (M := un N 0 6) hS hst hP0 hLd hN2 hN0 (by rw [un_at]; decide) hLs (Rng_un hP0.1 (ok_0.mpr (by omega))) (fun j _ j0 _ _ _ _ _ _ _ _ => un_ne j0) (fun k => un_ne (by omega)) ⟨by rw [fs, un_at, un_at], by rw [fs, un_ne (by decide), un_ne (by decide)]; exact hfl.2.1, by rw [fs, un_ne (by decide), un_ne (by decide)]; exact hfl.2.2.2.2.2.2.2.2⟩ (fun j j0 _ _ => by rw [fs, un_ne j0]) (fun k hk => by rw [f0 _ (by omega), un_ne (by omega)]; exact (hky.2 k (by omega)).2.1) (fun k _ k0 _ _ => f0 _ (by omega)) ⟨f0 _ ql.1, f0 _ ql.2.1, f0 _ ql.2.2⟩ (fn_0 hfn (f0 _ (by omega)) (fun j hj => un_ne (by omega)) hN6)
    exact r_vret (pc := 55) dX0_drawFinal_55 trivial (hq0 (by omega) _ ⟨hS, ⟨Ext.id _ _ _, Or.inl rfl, Or.inl rfl, Or.inl rfl⟩, fun x _ xs _ _ _ _ => f0 x (by omega), hx.1, by rw [show tN (un N 0 6) = tN N from by unfold tN; rw [un_ne (by decide)]]; exact htc, hx.2.1, hx.2.2⟩)
end C31
